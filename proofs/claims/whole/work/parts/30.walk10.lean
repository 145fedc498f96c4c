theorem dX12_rests_0 : decode cX12_rests 0 = .ok (.aload_n 0, 1) := by decide +kernel
theorem dX12_rests_1 : decode cX12_rests 1 = .ok (.iconst 0, 1) := by decide +kernel
theorem dX12_rests_2 : decode cX12_rests 2 = .ok (.putfield 122, 3) := by decide +kernel
theorem dX12_rests_5 : decode cX12_rests 5 = .ok (.aload_n 0, 1) := by decide +kernel
theorem dX12_rests_6 : decode cX12_rests 6 = .ok (.iload_n 1, 1) := by decide +kernel
theorem dX12_rests_7 : decode cX12_rests 7 = .ok (.invokevirtual 372, 3) := by decide +kernel
theorem dX12_rests_10 : decode cX12_rests 10 = .ok (.ifCond .eq 12, 3) := by decide +kernel
theorem dX12_rests_13 : decode cX12_rests 13 = .ok (.aload_n 0, 1) := by decide +kernel
theorem dX12_rests_14 : decode cX12_rests 14 = .ok (.iload_n 2, 1) := by decide +kernel
theorem dX12_rests_15 : decode cX12_rests 15 = .ok (.iload_n 3, 1) := by decide +kernel
theorem dX12_rests_16 : decode cX12_rests 16 = .ok (.invokevirtual 458, 3) := by decide +kernel
theorem dX12_rests_19 : decode cX12_rests 19 = .ok (.ifCond .ne 6, 3) := by decide +kernel
theorem dX12_rests_22 : decode cX12_rests 22 = .ok (.bipush (-2), 2) := by decide +kernel
theorem dX12_rests_24 : decode cX12_rests 24 = .ok (.ireturn, 1) := by decide +kernel
theorem dX12_rests_25 : decode cX12_rests 25 = .ok (.iconst 0, 1) := by decide +kernel
theorem dX12_rests_26 : decode cX12_rests 26 = .ok (.istore 4, 2) := by decide +kernel
theorem dX12_rests_28 : decode cX12_rests 28 = .ok (.iconst 0, 1) := by decide +kernel
theorem dX12_rests_29 : decode cX12_rests 29 = .ok (.istore 5, 2) := by decide +kernel
theorem dX12_rests_31 : decode cX12_rests 31 = .ok (.iload 5, 2) := by decide +kernel
theorem dX12_rests_33 : decode cX12_rests 33 = .ok (.iconst 4, 1) := by decide +kernel
theorem dX12_rests_34 : decode cX12_rests 34 = .ok (.if_icmp .ge 104, 3) := by decide +kernel
theorem dX12_rests_37 : decode cX12_rests 37 = .ok (.iload 5, 2) := by decide +kernel
theorem dX12_rests_39 : decode cX12_rests 39 = .ok (.iconst 2, 1) := by decide +kernel
theorem dX12_rests_40 : decode cX12_rests 40 = .ok (.irem, 1) := by decide +kernel
theorem dX12_rests_41 : decode cX12_rests 41 = .ok (.istore 6, 2) := by decide +kernel
theorem dX12_rests_43 : decode cX12_rests 43 = .ok (.iload 5, 2) := by decide +kernel
theorem dX12_rests_45 : decode cX12_rests 45 = .ok (.iconst 2, 1) := by decide +kernel
theorem dX12_rests_46 : decode cX12_rests 46 = .ok (.idiv, 1) := by decide +kernel
theorem dX12_rests_47 : decode cX12_rests 47 = .ok (.istore 7, 2) := by decide +kernel
theorem dX12_rests_49 : decode cX12_rests 49 = .ok (.aload_n 0, 1) := by decide +kernel
theorem dX12_rests_50 : decode cX12_rests 50 = .ok (.iload_n 1, 1) := by decide +kernel
theorem dX12_rests_51 : decode cX12_rests 51 = .ok (.iload_n 2, 1) := by decide +kernel
theorem dX12_rests_52 : decode cX12_rests 52 = .ok (.iload_n 2, 1) := by decide +kernel
theorem dX12_rests_53 : decode cX12_rests 53 = .ok (.iload_n 3, 1) := by decide +kernel
theorem dX12_rests_54 : decode cX12_rests 54 = .ok (.iconst 1, 1) := by decide +kernel
theorem dX12_rests_55 : decode cX12_rests 55 = .ok (.iload 6, 2) := by decide +kernel
theorem dX12_rests_57 : decode cX12_rests 57 = .ok (.isub, 1) := by decide +kernel
theorem dX12_rests_58 : decode cX12_rests 58 = .ok (.iload 7, 2) := by decide +kernel
theorem dX12_rests_60 : decode cX12_rests 60 = .ok (.invokevirtual 461, 3) := by decide +kernel
theorem dX12_rests_63 : decode cX12_rests 63 = .ok (.aload_n 0, 1) := by decide +kernel
theorem dX12_rests_64 : decode cX12_rests 64 = .ok (.iload_n 1, 1) := by decide +kernel
theorem dX12_rests_65 : decode cX12_rests 65 = .ok (.iload_n 2, 1) := by decide +kernel
theorem dX12_rests_66 : decode cX12_rests 66 = .ok (.iload_n 2, 1) := by decide +kernel
theorem dX12_rests_67 : decode cX12_rests 67 = .ok (.iload_n 3, 1) := by decide +kernel
theorem dX12_rests_68 : decode cX12_rests 68 = .ok (.iload 6, 2) := by decide +kernel
theorem dX12_rests_70 : decode cX12_rests 70 = .ok (.iload 7, 2) := by decide +kernel
theorem dX12_rests_72 : decode cX12_rests 72 = .ok (.invokevirtual 461, 3) := by decide +kernel
theorem dX12_rests_75 : decode cX12_rests 75 = .ok (.if_icmp .gt 36, 3) := by decide +kernel
theorem dX12_rests_78 : decode cX12_rests 78 = .ok (.aload_n 0, 1) := by decide +kernel
theorem dX12_rests_79 : decode cX12_rests 79 = .ok (.iload_n 1, 1) := by decide +kernel
theorem dX12_rests_80 : decode cX12_rests 80 = .ok (.iload_n 3, 1) := by decide +kernel
theorem dX12_rests_81 : decode cX12_rests 81 = .ok (.iload_n 2, 1) := by decide +kernel
theorem dX12_rests_82 : decode cX12_rests 82 = .ok (.iload_n 3, 1) := by decide +kernel
theorem dX12_rests_83 : decode cX12_rests 83 = .ok (.iload 6, 2) := by decide +kernel
theorem dX12_rests_85 : decode cX12_rests 85 = .ok (.iconst 1, 1) := by decide +kernel
theorem dX12_rests_86 : decode cX12_rests 86 = .ok (.iload 7, 2) := by decide +kernel
theorem dX12_rests_88 : decode cX12_rests 88 = .ok (.isub, 1) := by decide +kernel
theorem dX12_rests_89 : decode cX12_rests 89 = .ok (.invokevirtual 461, 3) := by decide +kernel
theorem dX12_rests_92 : decode cX12_rests 92 = .ok (.aload_n 0, 1) := by decide +kernel
theorem dX12_rests_93 : decode cX12_rests 93 = .ok (.iload_n 1, 1) := by decide +kernel
theorem dX12_rests_94 : decode cX12_rests 94 = .ok (.iload_n 3, 1) := by decide +kernel
theorem dX12_rests_95 : decode cX12_rests 95 = .ok (.iload_n 2, 1) := by decide +kernel
theorem dX12_rests_96 : decode cX12_rests 96 = .ok (.iload_n 3, 1) := by decide +kernel
theorem dX12_rests_97 : decode cX12_rests 97 = .ok (.iload 6, 2) := by decide +kernel
theorem dX12_rests_99 : decode cX12_rests 99 = .ok (.iload 7, 2) := by decide +kernel
theorem dX12_rests_101 : decode cX12_rests 101 = .ok (.invokevirtual 461, 3) := by decide +kernel
theorem dX12_rests_104 : decode cX12_rests 104 = .ok (.if_icmp .gt 7, 3) := by decide +kernel
theorem dX12_rests_107 : decode cX12_rests 107 = .ok (.iconst 1, 1) := by decide +kernel
theorem dX12_rests_108 : decode cX12_rests 108 = .ok (.goto 4, 3) := by decide +kernel
theorem dX12_rests_111 : decode cX12_rests 111 = .ok (.iconst 0, 1) := by decide +kernel
theorem dX12_rests_112 : decode cX12_rests 112 = .ok (.istore 8, 2) := by decide +kernel
theorem dX12_rests_114 : decode cX12_rests 114 = .ok (.iload 4, 2) := by decide +kernel
theorem dX12_rests_116 : decode cX12_rests 116 = .ok (.iload 8, 2) := by decide +kernel
theorem dX12_rests_118 : decode cX12_rests 118 = .ok (.ifCond .eq 10, 3) := by decide +kernel
theorem dX12_rests_121 : decode cX12_rests 121 = .ok (.iconst 1, 1) := by decide +kernel
theorem dX12_rests_122 : decode cX12_rests 122 = .ok (.iload 5, 2) := by decide +kernel
theorem dX12_rests_124 : decode cX12_rests 124 = .ok (.ishl, 1) := by decide +kernel
theorem dX12_rests_125 : decode cX12_rests 125 = .ok (.goto 4, 3) := by decide +kernel
theorem dX12_rests_128 : decode cX12_rests 128 = .ok (.iconst 0, 1) := by decide +kernel
theorem dX12_rests_129 : decode cX12_rests 129 = .ok (.ior, 1) := by decide +kernel
theorem dX12_rests_130 : decode cX12_rests 130 = .ok (.istore 4, 2) := by decide +kernel
theorem dX12_rests_132 : decode cX12_rests 132 = .ok (.iinc 5 1, 3) := by decide +kernel
theorem dX12_rests_135 : decode cX12_rests 135 = .ok (.goto (-104), 3) := by decide +kernel
theorem dX12_rests_138 : decode cX12_rests 138 = .ok (.iload 4, 2) := by decide +kernel
theorem dX12_rests_140 : decode cX12_rests 140 = .ok (.ireturn, 1) := by decide +kernel
theorem mokX12_rests : MOK yX12_rests cX12_rests 9 (some .int) 3 := ⟨w9_154, w1_13, ⟨by decide, by decide⟩, by decide +kernel, by decide⟩
abbrev miX12_rests : MI := (yX12_rests.cls, cX12_rests, 9, 6, false)
noncomputable def LX12_rests_1 : Sm Int32 := dLoop (fun f => (sI (sI (sI (sI (sI (sR fr0 0 (gR f 0)) 1 (gI f 1)) 2 (gI f 2)) 3 (gI f 3)) 4 (gI f 4)) 5 (gI f 5))) (dCI r_lt (vI 5) (cI 4)) (dSeq (dSetI 6 (d2z o_irem (vI 5) (cI 2))) (dSeq (dSetI 7 (d2z o_idiv (vI 5) (cI 2))) (dSeq (dSetI 8 (dB (dAnd (dCI r_le (dCallV 12 DX12_getsBy (aI (aI (aI (aI (aI (aI (aR aN 0 (vR 0)) 1 (vI 1)) 2 (vI 2)) 3 (vI 2)) 4 (vI 3)) 5 (d2 o_isub (cI 1) (vI 6))) 6 (vI 7))) (dCallV 12 DX12_getsBy (aI (aI (aI (aI (aI (aI (aR aN 0 (vR 0)) 1 (vI 1)) 2 (vI 2)) 3 (vI 2)) 4 (vI 3)) 5 (vI 6)) 6 (vI 7)))) (dCI r_le (dCallV 12 DX12_getsBy (aI (aI (aI (aI (aI (aI (aR aN 0 (vR 0)) 1 (vI 1)) 2 (vI 3)) 3 (vI 2)) 4 (vI 3)) 5 (vI 6)) 6 (d2 o_isub (cI 1) (vI 7)))) (dCallV 12 DX12_getsBy (aI (aI (aI (aI (aI (aI (aR aN 0 (vR 0)) 1 (vI 1)) 2 (vI 3)) 3 (vI 2)) 4 (vI 3)) 5 (vI 6)) 6 (vI 7))))))) (dSetI 4 (d2 o_ior (vI 4) (dT (dCZ q_ne (vI 8)) (d2 o_ishl (cI 1) (vI 5)) (cI 0))))))) (dInc 5 1)
theorem sLX12_rests_1 {ΓL : Gm} {PB PK : List Nat} : SS (cvoI, .ireturn) miX12_rests ΓL PB PK [(0, 2), (1, 0), (2, 0), (3, 0), (4, 0), (5, 0)] [(0, 2), (1, 0), (2, 0), (3, 0), (4, 0), (5, 0)] 31 [138] LX12_rests_1 := t_loop (pT := 37) (pF := 138) (pu := 132) (PB' := []) (PK' := []) (XB := [132]) (XU := [135]) (fun _ _ => rfl) rfl (c_lt_F (pF := 138) (s_iload dX12_rests_31 rfl) (s_iconst dX12_rests_33 rfl) dX12_rests_34 rfl) (t_sq (p1 := 43) (Γ' := [(0, 2), (1, 0), (2, 0), (3, 0), (4, 0), (5, 0), (6, 0)]) (t_istore (s_irem (s_iload dX12_rests_37 rfl) (s_iconst dX12_rests_39 rfl) dX12_rests_40) dX12_rests_41 rfl rfl) (t_sq (p1 := 49) (Γ' := [(0, 2), (1, 0), (2, 0), (3, 0), (4, 0), (5, 0), (6, 0), (7, 0)]) (t_istore (s_idiv (s_iload dX12_rests_43 rfl) (s_iconst dX12_rests_45 rfl) dX12_rests_46) dX12_rests_47 rfl rfl) (t_sq (p1 := 114) (Γ' := [(0, 2), (1, 0), (2, 0), (3, 0), (4, 0), (5, 0), (6, 0), (7, 0), (8, 0)]) (t_istore (s_B (pT := 107) (pF := 111) (pe := 112) (c_and (p1 := 78) (pT := 107) (pF := 111) (c_le_F (pF := 111) (s_of_xI (x_callV (ts := [(0, 2), (1, 0), (2, 0), (3, 0), (4, 0), (5, 0), (6, 0)]) ck12 rfl kX12_getsBy mokX12_getsBy w9_161 ps7_7 rfl rfl rfl rfl (a_I (ts := [(0, 2), (1, 0), (2, 0), (3, 0), (4, 0), (5, 0)]) 6 (a_I (ts := [(0, 2), (1, 0), (2, 0), (3, 0), (4, 0)]) 5 (a_I (ts := [(0, 2), (1, 0), (2, 0), (3, 0)]) 4 (a_I (ts := [(0, 2), (1, 0), (2, 0)]) 3 (a_I (ts := [(0, 2), (1, 0)]) 2 (a_I (ts := [(0, 2)]) 1 (a_R (ts := []) 0 a_nil (s_aload_n dX12_rests_49 rfl rfl) rfl) (s_iload_n dX12_rests_50 rfl rfl) rfl) (s_iload_n dX12_rests_51 rfl rfl) rfl) (s_iload_n dX12_rests_52 rfl rfl) rfl) (s_iload_n dX12_rests_53 rfl rfl) rfl) (s_isub (s_iconst dX12_rests_54 rfl) (s_iload dX12_rests_55 rfl) dX12_rests_57) rfl) (s_iload dX12_rests_58 rfl) rfl) dX12_rests_60 w9_159)) (s_of_xI (x_callV (ts := [(0, 2), (1, 0), (2, 0), (3, 0), (4, 0), (5, 0), (6, 0)]) ck12 rfl kX12_getsBy mokX12_getsBy w9_161 ps7_7 rfl rfl rfl rfl (a_I (ts := [(0, 2), (1, 0), (2, 0), (3, 0), (4, 0), (5, 0)]) 6 (a_I (ts := [(0, 2), (1, 0), (2, 0), (3, 0), (4, 0)]) 5 (a_I (ts := [(0, 2), (1, 0), (2, 0), (3, 0)]) 4 (a_I (ts := [(0, 2), (1, 0), (2, 0)]) 3 (a_I (ts := [(0, 2), (1, 0)]) 2 (a_I (ts := [(0, 2)]) 1 (a_R (ts := []) 0 a_nil (s_aload_n dX12_rests_63 rfl rfl) rfl) (s_iload_n dX12_rests_64 rfl rfl) rfl) (s_iload_n dX12_rests_65 rfl rfl) rfl) (s_iload_n dX12_rests_66 rfl rfl) rfl) (s_iload_n dX12_rests_67 rfl rfl) rfl) (s_iload dX12_rests_68 rfl) rfl) (s_iload dX12_rests_70 rfl) rfl) dX12_rests_72 w9_159)) dX12_rests_75 rfl) (c_le_F (pF := 111) (s_of_xI (x_callV (ts := [(0, 2), (1, 0), (2, 0), (3, 0), (4, 0), (5, 0), (6, 0)]) ck12 rfl kX12_getsBy mokX12_getsBy w9_161 ps7_7 rfl rfl rfl rfl (a_I (ts := [(0, 2), (1, 0), (2, 0), (3, 0), (4, 0), (5, 0)]) 6 (a_I (ts := [(0, 2), (1, 0), (2, 0), (3, 0), (4, 0)]) 5 (a_I (ts := [(0, 2), (1, 0), (2, 0), (3, 0)]) 4 (a_I (ts := [(0, 2), (1, 0), (2, 0)]) 3 (a_I (ts := [(0, 2), (1, 0)]) 2 (a_I (ts := [(0, 2)]) 1 (a_R (ts := []) 0 a_nil (s_aload_n dX12_rests_78 rfl rfl) rfl) (s_iload_n dX12_rests_79 rfl rfl) rfl) (s_iload_n dX12_rests_80 rfl rfl) rfl) (s_iload_n dX12_rests_81 rfl rfl) rfl) (s_iload_n dX12_rests_82 rfl rfl) rfl) (s_iload dX12_rests_83 rfl) rfl) (s_isub (s_iconst dX12_rests_85 rfl) (s_iload dX12_rests_86 rfl) dX12_rests_88) rfl) dX12_rests_89 w9_159)) (s_of_xI (x_callV (ts := [(0, 2), (1, 0), (2, 0), (3, 0), (4, 0), (5, 0), (6, 0)]) ck12 rfl kX12_getsBy mokX12_getsBy w9_161 ps7_7 rfl rfl rfl rfl (a_I (ts := [(0, 2), (1, 0), (2, 0), (3, 0), (4, 0), (5, 0)]) 6 (a_I (ts := [(0, 2), (1, 0), (2, 0), (3, 0), (4, 0)]) 5 (a_I (ts := [(0, 2), (1, 0), (2, 0), (3, 0)]) 4 (a_I (ts := [(0, 2), (1, 0), (2, 0)]) 3 (a_I (ts := [(0, 2), (1, 0)]) 2 (a_I (ts := [(0, 2)]) 1 (a_R (ts := []) 0 a_nil (s_aload_n dX12_rests_92 rfl rfl) rfl) (s_iload_n dX12_rests_93 rfl rfl) rfl) (s_iload_n dX12_rests_94 rfl rfl) rfl) (s_iload_n dX12_rests_95 rfl rfl) rfl) (s_iload_n dX12_rests_96 rfl rfl) rfl) (s_iload dX12_rests_97 rfl) rfl) (s_iload dX12_rests_99 rfl) rfl) dX12_rests_101 w9_159)) dX12_rests_104 rfl)) dX12_rests_107 dX12_rests_108 rfl dX12_rests_111 rfl) dX12_rests_112 rfl rfl) (t_istore (s_ior (s_iload dX12_rests_114 rfl) (s_T (pT := 121) (pF := 128) (p1 := 125) (pe := 129) (c_ne_ZF (pF := 128) (s_iload dX12_rests_116 rfl) dX12_rests_118 rfl) (s_ishl (s_iconst dX12_rests_121 rfl) (s_iload dX12_rests_122 rfl) dX12_rests_124) (s_iconst dX12_rests_128 rfl) (ld_goto (y := 129) dX12_rests_125 rfl (ld_in rfl))) dX12_rests_129) dX12_rests_130 rfl rfl)))) (t_iinc dX12_rests_132 rfl rfl rfl rfl) (lda_cons (ld_in rfl) lda_nil) lda_nil (lda_cons (ld_goto (y := 31) dX12_rests_135 rfl (ld_in rfl)) lda_nil) (ld_in rfl) lda_nil
noncomputable def BX12_rests : Sm Int32 := (dSeq (dP (fI 12 0) (vR 0) (cI 0)) (dSeq (dIf (dOr (dNot (dCZ q_ne (dCallV 12 DX12_isSlate (aI (aR aN 0 (vR 0)) 1 (vI 1))))) (dNot (dCZ q_ne (dCallV 12 DX12_areTwo (aI (aI (aR aN 0 (vR 0)) 1 (vI 2)) 2 (vI 3)))))) (dRet (cI (-2))) dSkip) (dSeq (dSetI 4 (cI 0)) (dSeq (dSeq (dSetI 5 (cI 0)) LX12_rests_1) (dRet (vI 4))))))
theorem sBX12_rests : SS (cvoI, .ireturn) miX12_rests [] [] [] [(0, 2), (1, 0), (2, 0), (3, 0)] [(0, 2), (1, 0), (2, 0), (3, 0)] 0 [] BX12_rests := (t_sq (p1 := 5) (Γ' := [(0, 2), (1, 0), (2, 0), (3, 0)]) (t_pI ck12 0 (by decide) rfl (Or.inl rfl) (s_aload_n dX12_rests_0 rfl rfl) (s_iconst dX12_rests_1 rfl) dX12_rests_2 w6_205 rfl) (t_sq (p1 := 25) (Γ' := [(0, 2), (1, 0), (2, 0), (3, 0)]) (t_if (pT := 22) (pF := 25) (X := [25]) (XA := []) (XB := [25]) (c_or (p1 := 13) (pT := 22) (pF := 25) (c_not (pT := 22) (pF := 13) (c_ne_ZF (pF := 22) (s_of_xI (x_callV (ts := [(0, 2), (1, 0)]) ck12 rfl kX12_isSlate mokX12_isSlate w8_85 ps5_4 rfl rfl rfl rfl (a_I (ts := [(0, 2)]) 1 (a_R (ts := []) 0 a_nil (s_aload_n dX12_rests_5 rfl rfl) rfl) (s_iload_n dX12_rests_6 rfl rfl) rfl) dX12_rests_7 w8_83)) dX12_rests_10 rfl)) (c_not (pT := 22) (pF := 25) (c_ne_ZJ (pT := 25) (s_of_xI (x_callV (ts := [(0, 2), (1, 0), (2, 0)]) ck12 rfl kX12_areTwo mokX12_areTwo w9_157 ps7_6 rfl rfl rfl rfl (a_I (ts := [(0, 2), (1, 0)]) 2 (a_I (ts := [(0, 2)]) 1 (a_R (ts := []) 0 a_nil (s_aload_n dX12_rests_13 rfl rfl) rfl) (s_iload_n dX12_rests_14 rfl rfl) rfl) (s_iload_n dX12_rests_15 rfl rfl) rfl) dX12_rests_16 w9_155)) dX12_rests_19 rfl))) (t_ret (cv := cvI) (fun _ _ => rfl) (s_bipush dX12_rests_22 rfl) dX12_rests_24) (t_skip (ld_in rfl) rfl) lda_nil (lda_cons (ld_in rfl) lda_nil)) (t_sq (p1 := 28) (Γ' := [(0, 2), (1, 0), (2, 0), (3, 0), (4, 0)]) (t_istore (s_iconst dX12_rests_25 rfl) dX12_rests_26 rfl rfl) (t_sq (p1 := 138) (Γ' := [(0, 2), (1, 0), (2, 0), (3, 0), (4, 0)]) (t_sq (p1 := 31) (Γ' := [(0, 2), (1, 0), (2, 0), (3, 0), (4, 0), (5, 0)]) (t_istore (s_iconst dX12_rests_28 rfl) dX12_rests_29 rfl rfl) (tn_to (Γ' := [(0, 2), (1, 0), (2, 0), (3, 0), (4, 0), (5, 0)]) (XA := [138]) sLX12_rests_1 (lda_cons (ld_in rfl) lda_nil) rfl)) (t_ret (cv := cvI) (fun _ _ => rfl) (s_iload dX12_rests_138 rfl) dX12_rests_140)))))
noncomputable def DX12_rests : Fr → St → Option (Int32 × St) := M1 (fun f => (sI (sI (sI (sR fr0 0 (gR f 0)) 1 (gI f 1)) 2 (gI f 2)) 3 (gI f 3))) BX12_rests
theorem kX12_rests : SND yX12_rests cX12_rests 9 (some .int) 6 [(0, 2), (1, 0), (2, 0), (3, 0)] cvoI DX12_rests := snd_I (nw := 4) (by decide) rfl rfl (fun _ _ => rfl) sBX12_rests
theorem dX12_gets_0 : decode cX12_gets 0 = .ok (.aload_n 0, 1) := by decide +kernel
theorem dX12_gets_1 : decode cX12_gets 1 = .ok (.iconst 0, 1) := by decide +kernel
theorem dX12_gets_2 : decode cX12_gets 2 = .ok (.putfield 122, 3) := by decide +kernel
theorem dX12_gets_5 : decode cX12_gets 5 = .ok (.aload_n 0, 1) := by decide +kernel
theorem dX12_gets_6 : decode cX12_gets 6 = .ok (.iload_n 1, 1) := by decide +kernel
theorem dX12_gets_7 : decode cX12_gets 7 = .ok (.invokevirtual 372, 3) := by decide +kernel
theorem dX12_gets_10 : decode cX12_gets 10 = .ok (.ifCond .eq 43, 3) := by decide +kernel
theorem dX12_gets_13 : decode cX12_gets 13 = .ok (.aload_n 0, 1) := by decide +kernel
theorem dX12_gets_14 : decode cX12_gets 14 = .ok (.iload_n 2, 1) := by decide +kernel
theorem dX12_gets_15 : decode cX12_gets 15 = .ok (.iload_n 3, 1) := by decide +kernel
theorem dX12_gets_16 : decode cX12_gets 16 = .ok (.invokevirtual 458, 3) := by decide +kernel
theorem dX12_gets_19 : decode cX12_gets 19 = .ok (.ifCond .eq 34, 3) := by decide +kernel
theorem dX12_gets_22 : decode cX12_gets 22 = .ok (.iload 4, 2) := by decide +kernel
theorem dX12_gets_24 : decode cX12_gets 24 = .ok (.invokestatic 369, 3) := by decide +kernel
theorem dX12_gets_27 : decode cX12_gets 27 = .ok (.ifCond .eq 26, 3) := by decide +kernel
theorem dX12_gets_30 : decode cX12_gets 30 = .ok (.iload 5, 2) := by decide +kernel
theorem dX12_gets_32 : decode cX12_gets 32 = .ok (.invokestatic 369, 3) := by decide +kernel
theorem dX12_gets_35 : decode cX12_gets 35 = .ok (.ifCond .eq 18, 3) := by decide +kernel
theorem dX12_gets_38 : decode cX12_gets 38 = .ok (.aload_n 0, 1) := by decide +kernel
theorem dX12_gets_39 : decode cX12_gets 39 = .ok (.iload_n 1, 1) := by decide +kernel
theorem dX12_gets_40 : decode cX12_gets 40 = .ok (.iload_n 2, 1) := by decide +kernel
theorem dX12_gets_41 : decode cX12_gets 41 = .ok (.iload_n 2, 1) := by decide +kernel
theorem dX12_gets_42 : decode cX12_gets 42 = .ok (.iload_n 3, 1) := by decide +kernel
theorem dX12_gets_43 : decode cX12_gets 43 = .ok (.iload 4, 2) := by decide +kernel
theorem dX12_gets_45 : decode cX12_gets 45 = .ok (.iload 5, 2) := by decide +kernel
theorem dX12_gets_47 : decode cX12_gets 47 = .ok (.invokevirtual 461, 3) := by decide +kernel
theorem dX12_gets_50 : decode cX12_gets 50 = .ok (.goto 6, 3) := by decide +kernel
theorem dX12_gets_53 : decode cX12_gets 53 = .ok (.sipush (-1000), 3) := by decide +kernel
theorem dX12_gets_56 : decode cX12_gets 56 = .ok (.ireturn, 1) := by decide +kernel
theorem mokX12_gets : MOK yX12_gets cX12_gets 6 (some .int) 5 := ⟨w9_166, w1_13, ⟨by decide, by decide⟩, by decide +kernel, by decide⟩
abbrev miX12_gets : MI := (yX12_gets.cls, cX12_gets, 6, 6, false)
noncomputable def BX12_gets : Sm Int32 := (dSeq (dP (fI 12 0) (vR 0) (cI 0)) (dRet (dT (dAnd (dAnd (dAnd (dCZ q_ne (dCallV 12 DX12_isSlate (aI (aR aN 0 (vR 0)) 1 (vI 1)))) (dCZ q_ne (dCallV 12 DX12_areTwo (aI (aI (aR aN 0 (vR 0)) 1 (vI 2)) 2 (vI 3))))) (dCZ q_ne (dCall DX12_isHalf (aI aN 0 (vI 4))))) (dCZ q_ne (dCall DX12_isHalf (aI aN 0 (vI 5))))) (dCallV 12 DX12_getsBy (aI (aI (aI (aI (aI (aI (aR aN 0 (vR 0)) 1 (vI 1)) 2 (vI 2)) 3 (vI 2)) 4 (vI 3)) 5 (vI 4)) 6 (vI 5))) (cI (-1000)))))
theorem sBX12_gets : SS (cvoI, .ireturn) miX12_gets [] [] [] [(0, 2), (1, 0), (2, 0), (3, 0), (4, 0), (5, 0)] [(0, 2), (1, 0), (2, 0), (3, 0), (4, 0), (5, 0)] 0 [] BX12_gets := (t_sq (p1 := 5) (Γ' := [(0, 2), (1, 0), (2, 0), (3, 0), (4, 0), (5, 0)]) (t_pI ck12 0 (by decide) rfl (Or.inl rfl) (s_aload_n dX12_gets_0 rfl rfl) (s_iconst dX12_gets_1 rfl) dX12_gets_2 w6_205 rfl) (t_ret (cv := cvI) (fun _ _ => rfl) (s_T (pT := 38) (pF := 53) (p1 := 50) (pe := 56) (c_and (p1 := 30) (pT := 38) (pF := 53) (c_and (p1 := 22) (pT := 30) (pF := 53) (c_and (p1 := 13) (pT := 22) (pF := 53) (c_ne_ZF (pF := 53) (s_of_xI (x_callV (ts := [(0, 2), (1, 0)]) ck12 rfl kX12_isSlate mokX12_isSlate w8_85 ps5_4 rfl rfl rfl rfl (a_I (ts := [(0, 2)]) 1 (a_R (ts := []) 0 a_nil (s_aload_n dX12_gets_5 rfl rfl) rfl) (s_iload_n dX12_gets_6 rfl rfl) rfl) dX12_gets_7 w8_83)) dX12_gets_10 rfl) (c_ne_ZF (pF := 53) (s_of_xI (x_callV (ts := [(0, 2), (1, 0), (2, 0)]) ck12 rfl kX12_areTwo mokX12_areTwo w9_157 ps7_6 rfl rfl rfl rfl (a_I (ts := [(0, 2), (1, 0)]) 2 (a_I (ts := [(0, 2)]) 1 (a_R (ts := []) 0 a_nil (s_aload_n dX12_gets_13 rfl rfl) rfl) (s_iload_n dX12_gets_14 rfl rfl) rfl) (s_iload_n dX12_gets_15 rfl rfl) rfl) dX12_gets_16 w9_155)) dX12_gets_19 rfl)) (c_ne_ZF (pF := 53) (s_of_xI (x_call (ts := [(0, 0)]) kX12_isHalf mokX12_isHalf w8_77 rfl rfl rfl (a_I (ts := []) 0 a_nil (s_iload dX12_gets_22 rfl) rfl) dX12_gets_24 w8_76)) dX12_gets_27 rfl)) (c_ne_ZF (pF := 53) (s_of_xI (x_call (ts := [(0, 0)]) kX12_isHalf mokX12_isHalf w8_77 rfl rfl rfl (a_I (ts := []) 0 a_nil (s_iload dX12_gets_30 rfl) rfl) dX12_gets_32 w8_76)) dX12_gets_35 rfl)) (s_of_xI (x_callV (ts := [(0, 2), (1, 0), (2, 0), (3, 0), (4, 0), (5, 0), (6, 0)]) ck12 rfl kX12_getsBy mokX12_getsBy w9_161 ps7_7 rfl rfl rfl rfl (a_I (ts := [(0, 2), (1, 0), (2, 0), (3, 0), (4, 0), (5, 0)]) 6 (a_I (ts := [(0, 2), (1, 0), (2, 0), (3, 0), (4, 0)]) 5 (a_I (ts := [(0, 2), (1, 0), (2, 0), (3, 0)]) 4 (a_I (ts := [(0, 2), (1, 0), (2, 0)]) 3 (a_I (ts := [(0, 2), (1, 0)]) 2 (a_I (ts := [(0, 2)]) 1 (a_R (ts := []) 0 a_nil (s_aload_n dX12_gets_38 rfl rfl) rfl) (s_iload_n dX12_gets_39 rfl rfl) rfl) (s_iload_n dX12_gets_40 rfl rfl) rfl) (s_iload_n dX12_gets_41 rfl rfl) rfl) (s_iload_n dX12_gets_42 rfl rfl) rfl) (s_iload dX12_gets_43 rfl) rfl) (s_iload dX12_gets_45 rfl) rfl) dX12_gets_47 w9_159)) (s_sipush dX12_gets_53 rfl) (ld_goto (y := 56) dX12_gets_50 rfl (ld_in rfl))) dX12_gets_56))
noncomputable def DX12_gets : Fr → St → Option (Int32 × St) := M1 (fun f => (sI (sI (sI (sI (sI (sR fr0 0 (gR f 0)) 1 (gI f 1)) 2 (gI f 2)) 3 (gI f 3)) 4 (gI f 4)) 5 (gI f 5))) BX12_gets
theorem kX12_gets : SND yX12_gets cX12_gets 6 (some .int) 6 [(0, 2), (1, 0), (2, 0), (3, 0), (4, 0), (5, 0)] cvoI DX12_gets := snd_I (nw := 6) (by decide) rfl rfl (fun _ _ => rfl) sBX12_gets
theorem dX12_tens_0 : decode cX12_tens 0 = .ok (.lconst 1, 1) := by decide +kernel
theorem dX12_tens_1 : decode cX12_tens 1 = .ok (.lstore_n 1, 1) := by decide +kernel
theorem dX12_tens_2 : decode cX12_tens 2 = .ok (.iconst 0, 1) := by decide +kernel
theorem dX12_tens_3 : decode cX12_tens 3 = .ok (.istore_n 3, 1) := by decide +kernel
theorem dX12_tens_4 : decode cX12_tens 4 = .ok (.iload_n 3, 1) := by decide +kernel
theorem dX12_tens_5 : decode cX12_tens 5 = .ok (.aload_n 0, 1) := by decide +kernel
theorem dX12_tens_6 : decode cX12_tens 6 = .ok (.invokevirtual 304, 3) := by decide +kernel
theorem dX12_tens_9 : decode cX12_tens 9 = .ok (.if_icmp .ge 15, 3) := by decide +kernel
theorem dX12_tens_12 : decode cX12_tens 12 = .ok (.lload_n 1, 1) := by decide +kernel
theorem dX12_tens_13 : decode cX12_tens 13 = .ok (.ldc2_w 465, 3) := by decide +kernel
theorem dX12_tens_16 : decode cX12_tens 16 = .ok (.lmul, 1) := by decide +kernel
theorem dX12_tens_17 : decode cX12_tens 17 = .ok (.lstore_n 1, 1) := by decide +kernel
theorem dX12_tens_18 : decode cX12_tens 18 = .ok (.iinc 3 1, 3) := by decide +kernel
theorem dX12_tens_21 : decode cX12_tens 21 = .ok (.goto (-17), 3) := by decide +kernel
theorem dX12_tens_24 : decode cX12_tens 24 = .ok (.lload_n 1, 1) := by decide +kernel
theorem dX12_tens_25 : decode cX12_tens 25 = .ok (.lreturn, 1) := by decide +kernel
theorem mokX12_tens : MOK yX12_tens cX12_tens 4 (some .long) 0 := ⟨w9_178, w1_13, ⟨by decide, by decide⟩, by decide +kernel, by decide⟩
abbrev miX12_tens : MI := (yX12_tens.cls, cX12_tens, 4, 2, false)
noncomputable def LX12_tens_1 : Sm Int64 := dLoop (fun f => (sI (sL (sR fr0 0 (gR f 0)) 1 (gL f 1)) 3 (gI f 3))) (dCI r_lt (vI 3) (dCallV 12 DX12_days (aR aN 0 (vR 0)))) (dSetL 1 (d2 o_lmul (vL 1) (cL 10))) (dInc 3 1)
theorem sLX12_tens_1 {ΓL : Gm} {PB PK : List Nat} : SS (cvoL, .lreturn) miX12_tens ΓL PB PK [(0, 2), (1, 1), (3, 0)] [(0, 2), (1, 1), (3, 0)] 4 [24] LX12_tens_1 := t_loop (pT := 12) (pF := 24) (pu := 18) (PB' := []) (PK' := []) (XB := [18]) (XU := [21]) (fun _ _ => rfl) rfl (c_lt_F (pF := 24) (s_iload_n dX12_tens_4 rfl rfl) (s_of_xI (x_callV (ts := [(0, 2)]) ck12 rfl kX12_days mokX12_days w8_136 ps5_12 rfl rfl rfl rfl (a_R (ts := []) 0 a_nil (s_aload_n dX12_tens_5 rfl rfl) rfl) dX12_tens_6 w8_134)) dX12_tens_9 rfl) (t_lstore_n (s_lmul (s_lload_n dX12_tens_12 rfl rfl) (s_ldc2 dX12_tens_13 w9_179) dX12_tens_16) dX12_tens_17 rfl rfl rfl) (t_iinc dX12_tens_18 rfl rfl rfl rfl) (lda_cons (ld_in rfl) lda_nil) lda_nil (lda_cons (ld_goto (y := 4) dX12_tens_21 rfl (ld_in rfl)) lda_nil) (ld_in rfl) lda_nil
noncomputable def BX12_tens : Sm Int64 := (dSeq (dSetL 1 (cL 1)) (dSeq (dSeq (dSetI 3 (cI 0)) LX12_tens_1) (dRet (vL 1))))
theorem sBX12_tens : SS (cvoL, .lreturn) miX12_tens [] [] [] [(0, 2)] [(0, 2)] 0 [] BX12_tens := (t_sq (p1 := 2) (Γ' := [(0, 2), (1, 1)]) (t_lstore_n (s_lconst dX12_tens_0 rfl) dX12_tens_1 rfl rfl rfl) (t_sq (p1 := 24) (Γ' := [(0, 2), (1, 1)]) (t_sq (p1 := 4) (Γ' := [(0, 2), (1, 1), (3, 0)]) (t_istore_n (s_iconst dX12_tens_2 rfl) dX12_tens_3 rfl rfl rfl) (tn_to (Γ' := [(0, 2), (1, 1), (3, 0)]) (XA := [24]) sLX12_tens_1 (lda_cons (ld_in rfl) lda_nil) rfl)) (t_ret (cv := cvL) (fun _ _ => rfl) (s_lload_n dX12_tens_24 rfl rfl) dX12_tens_25)))
noncomputable def DX12_tens : Fr → St → Option (Int64 × St) := M1 (fun f => (sR fr0 0 (gR f 0))) BX12_tens
theorem kX12_tens : SND yX12_tens cX12_tens 4 (some .long) 2 [(0, 2)] cvoL DX12_tens := snd_L (nw := 1) (by decide) rfl rfl (fun _ _ => rfl) sBX12_tens
theorem dX12_weightOf_0 : decode cX12_weightOf 0 = .ok (.aload_n 0, 1) := by decide +kernel
theorem dX12_weightOf_1 : decode cX12_weightOf 1 = .ok (.invokevirtual 360, 3) := by decide +kernel
theorem dX12_weightOf_4 : decode cX12_weightOf 4 = .ok (.lconst 0, 1) := by decide +kernel
theorem dX12_weightOf_5 : decode cX12_weightOf 5 = .ok (.lstore_n 3, 1) := by decide +kernel
theorem dX12_weightOf_6 : decode cX12_weightOf 6 = .ok (.iconst 0, 1) := by decide +kernel
theorem dX12_weightOf_7 : decode cX12_weightOf 7 = .ok (.istore 5, 2) := by decide +kernel
theorem dX12_weightOf_9 : decode cX12_weightOf 9 = .ok (.iload 5, 2) := by decide +kernel
theorem dX12_weightOf_11 : decode cX12_weightOf 11 = .ok (.iconst 1, 1) := by decide +kernel
theorem dX12_weightOf_12 : decode cX12_weightOf 12 = .ok (.aload_n 0, 1) := by decide +kernel
theorem dX12_weightOf_13 : decode cX12_weightOf 13 = .ok (.invokevirtual 304, 3) := by decide +kernel
theorem dX12_weightOf_16 : decode cX12_weightOf 16 = .ok (.ishl, 1) := by decide +kernel
theorem dX12_weightOf_17 : decode cX12_weightOf 17 = .ok (.if_icmp .ge 130, 3) := by decide +kernel
theorem dX12_weightOf_20 : decode cX12_weightOf 20 = .ok (.lconst 1, 1) := by decide +kernel
theorem dX12_weightOf_21 : decode cX12_weightOf 21 = .ok (.lstore 6, 2) := by decide +kernel
theorem dX12_weightOf_23 : decode cX12_weightOf 23 = .ok (.iconst 0, 1) := by decide +kernel
theorem dX12_weightOf_24 : decode cX12_weightOf 24 = .ok (.istore 8, 2) := by decide +kernel
theorem dX12_weightOf_26 : decode cX12_weightOf 26 = .ok (.iload 8, 2) := by decide +kernel
theorem dX12_weightOf_28 : decode cX12_weightOf 28 = .ok (.aload_n 0, 1) := by decide +kernel
theorem dX12_weightOf_29 : decode cX12_weightOf 29 = .ok (.invokevirtual 304, 3) := by decide +kernel
theorem dX12_weightOf_32 : decode cX12_weightOf 32 = .ok (.if_icmp .ge 44, 3) := by decide +kernel
theorem dX12_weightOf_35 : decode cX12_weightOf 35 = .ok (.lload 6, 2) := by decide +kernel
theorem dX12_weightOf_37 : decode cX12_weightOf 37 = .ok (.iload 5, 2) := by decide +kernel
theorem dX12_weightOf_39 : decode cX12_weightOf 39 = .ok (.iload 8, 2) := by decide +kernel
theorem dX12_weightOf_41 : decode cX12_weightOf 41 = .ok (.invokestatic 322, 3) := by decide +kernel
theorem dX12_weightOf_44 : decode cX12_weightOf 44 = .ok (.ifCond .eq 13, 3) := by decide +kernel
theorem dX12_weightOf_47 : decode cX12_weightOf 47 = .ok (.aload_n 0, 1) := by decide +kernel
theorem dX12_weightOf_48 : decode cX12_weightOf 48 = .ok (.getfield 34, 3) := by decide +kernel
theorem dX12_weightOf_51 : decode cX12_weightOf 51 = .ok (.iconst 2, 1) := by decide +kernel
theorem dX12_weightOf_52 : decode cX12_weightOf 52 = .ok (.iaload, 1) := by decide +kernel
theorem dX12_weightOf_53 : decode cX12_weightOf 53 = .ok (.i2l, 1) := by decide +kernel
theorem dX12_weightOf_54 : decode cX12_weightOf 54 = .ok (.goto 13, 3) := by decide +kernel
theorem dX12_weightOf_57 : decode cX12_weightOf 57 = .ok (.bipush 10, 2) := by decide +kernel
theorem dX12_weightOf_59 : decode cX12_weightOf 59 = .ok (.aload_n 0, 1) := by decide +kernel
theorem dX12_weightOf_60 : decode cX12_weightOf 60 = .ok (.getfield 34, 3) := by decide +kernel
theorem dX12_weightOf_63 : decode cX12_weightOf 63 = .ok (.iconst 2, 1) := by decide +kernel
theorem dX12_weightOf_64 : decode cX12_weightOf 64 = .ok (.iaload, 1) := by decide +kernel
theorem dX12_weightOf_65 : decode cX12_weightOf 65 = .ok (.isub, 1) := by decide +kernel
theorem dX12_weightOf_66 : decode cX12_weightOf 66 = .ok (.i2l, 1) := by decide +kernel
theorem dX12_weightOf_67 : decode cX12_weightOf 67 = .ok (.lmul, 1) := by decide +kernel
theorem dX12_weightOf_68 : decode cX12_weightOf 68 = .ok (.lstore 6, 2) := by decide +kernel
theorem dX12_weightOf_70 : decode cX12_weightOf 70 = .ok (.iinc 8 1, 3) := by decide +kernel
theorem dX12_weightOf_73 : decode cX12_weightOf 73 = .ok (.goto (-47), 3) := by decide +kernel
theorem dX12_weightOf_76 : decode cX12_weightOf 76 = .ok (.lload 6, 2) := by decide +kernel
theorem dX12_weightOf_78 : decode cX12_weightOf 78 = .ok (.lconst 0, 1) := by decide +kernel
theorem dX12_weightOf_79 : decode cX12_weightOf 79 = .ok (.lcmp, 1) := by decide +kernel
theorem dX12_weightOf_80 : decode cX12_weightOf 80 = .ok (.ifCond .ne 6, 3) := by decide +kernel
theorem dX12_weightOf_83 : decode cX12_weightOf 83 = .ok (.goto 58, 3) := by decide +kernel
theorem dX12_weightOf_86 : decode cX12_weightOf 86 = .ok (.aload_n 0, 1) := by decide +kernel
theorem dX12_weightOf_87 : decode cX12_weightOf 87 = .ok (.iload 5, 2) := by decide +kernel
theorem dX12_weightOf_89 : decode cX12_weightOf 89 = .ok (.putfield 313, 3) := by decide +kernel
theorem dX12_weightOf_92 : decode cX12_weightOf 92 = .ok (.aload_n 0, 1) := by decide +kernel
theorem dX12_weightOf_93 : decode cX12_weightOf 93 = .ok (.invokevirtual 363, 3) := by decide +kernel
theorem dX12_weightOf_96 : decode cX12_weightOf 96 = .ok (.lload_n 3, 1) := by decide +kernel
theorem dX12_weightOf_97 : decode cX12_weightOf 97 = .ok (.lload 6, 2) := by decide +kernel
theorem dX12_weightOf_99 : decode cX12_weightOf 99 = .ok (.iload_n 2, 1) := by decide +kernel
theorem dX12_weightOf_100 : decode cX12_weightOf 100 = .ok (.iconst (-1), 1) := by decide +kernel
theorem dX12_weightOf_101 : decode cX12_weightOf 101 = .ok (.if_icmp .ne 22, 3) := by decide +kernel
theorem dX12_weightOf_104 : decode cX12_weightOf 104 = .ok (.aload_n 0, 1) := by decide +kernel
theorem dX12_weightOf_105 : decode cX12_weightOf 105 = .ok (.getfield 77, 3) := by decide +kernel
theorem dX12_weightOf_108 : decode cX12_weightOf 108 = .ok (.iconst 3, 1) := by decide +kernel
theorem dX12_weightOf_109 : decode cX12_weightOf 109 = .ok (.aload_n 0, 1) := by decide +kernel
theorem dX12_weightOf_110 : decode cX12_weightOf 110 = .ok (.invokevirtual 304, 3) := by decide +kernel
theorem dX12_weightOf_113 : decode cX12_weightOf 113 = .ok (.imul, 1) := by decide +kernel
theorem dX12_weightOf_114 : decode cX12_weightOf 114 = .ok (.iload_n 1, 1) := by decide +kernel
theorem dX12_weightOf_115 : decode cX12_weightOf 115 = .ok (.iadd, 1) := by decide +kernel
theorem dX12_weightOf_116 : decode cX12_weightOf 116 = .ok (.iaload, 1) := by decide +kernel
theorem dX12_weightOf_117 : decode cX12_weightOf 117 = .ok (.invokestatic 394, 3) := by decide +kernel
theorem dX12_weightOf_120 : decode cX12_weightOf 120 = .ok (.goto 17, 3) := by decide +kernel
theorem dX12_weightOf_123 : decode cX12_weightOf 123 = .ok (.aload_n 0, 1) := by decide +kernel
theorem dX12_weightOf_124 : decode cX12_weightOf 124 = .ok (.iload_n 1, 1) := by decide +kernel
theorem dX12_weightOf_125 : decode cX12_weightOf 125 = .ok (.iload_n 2, 1) := by decide +kernel
theorem dX12_weightOf_126 : decode cX12_weightOf 126 = .ok (.invokevirtual 397, 3) := by decide +kernel
theorem dX12_weightOf_129 : decode cX12_weightOf 129 = .ok (.ifCond .ne 7, 3) := by decide +kernel
theorem dX12_weightOf_132 : decode cX12_weightOf 132 = .ok (.iconst 0, 1) := by decide +kernel
theorem dX12_weightOf_133 : decode cX12_weightOf 133 = .ok (.goto 4, 3) := by decide +kernel
theorem dX12_weightOf_136 : decode cX12_weightOf 136 = .ok (.iconst 1, 1) := by decide +kernel
theorem dX12_weightOf_137 : decode cX12_weightOf 137 = .ok (.i2l, 1) := by decide +kernel
theorem dX12_weightOf_138 : decode cX12_weightOf 138 = .ok (.lmul, 1) := by decide +kernel
theorem dX12_weightOf_139 : decode cX12_weightOf 139 = .ok (.ladd, 1) := by decide +kernel
theorem dX12_weightOf_140 : decode cX12_weightOf 140 = .ok (.lstore_n 3, 1) := by decide +kernel
theorem dX12_weightOf_141 : decode cX12_weightOf 141 = .ok (.iinc 5 1, 3) := by decide +kernel
theorem dX12_weightOf_144 : decode cX12_weightOf 144 = .ok (.goto (-135), 3) := by decide +kernel
theorem dX12_weightOf_147 : decode cX12_weightOf 147 = .ok (.lload_n 3, 1) := by decide +kernel
theorem dX12_weightOf_148 : decode cX12_weightOf 148 = .ok (.lreturn, 1) := by decide +kernel
theorem mokX12_weightOf : MOK yX12_weightOf cX12_weightOf 9 (some .long) 2 := ⟨w9_174, w1_13, ⟨by decide, by decide⟩, by decide +kernel, by decide⟩
abbrev miX12_weightOf : MI := (yX12_weightOf.cls, cX12_weightOf, 9, 5, false)
noncomputable def LX12_weightOf_1 : Sm Int64 := dLoop (fun f => (sI (sL (sI (sL (sI (sI (sR fr0 0 (gR f 0)) 1 (gI f 1)) 2 (gI f 2)) 3 (gL f 3)) 5 (gI f 5)) 6 (gL f 6)) 8 (gI f 8))) (dCI r_lt (vI 8) (dCallV 12 DX12_days (aR aN 0 (vR 0)))) (dSetL 6 (d2 o_lmul (vL 6) (dT (dCZ q_ne (dCall DX12_isBit (aI (aI aN 0 (vI 5)) 1 (vI 8)))) (d1 o_i2l (dAI (dGR 12 17 (vR 0)) (cI 2))) (d1 o_i2l (d2 o_isub (cI 10) (dAI (dGR 12 17 (vR 0)) (cI 2))))))) (dInc 8 1)
theorem sLX12_weightOf_1 {ΓL : Gm} {PB PK : List Nat} : SS (cvoL, .lreturn) miX12_weightOf ΓL PB PK [(0, 2), (1, 0), (2, 0), (3, 1), (5, 0), (6, 1), (8, 0)] [(0, 2), (1, 0), (2, 0), (3, 1), (5, 0), (6, 1), (8, 0)] 26 [76] LX12_weightOf_1 := t_loop (pT := 35) (pF := 76) (pu := 70) (PB' := []) (PK' := []) (XB := [70]) (XU := [73]) (fun _ _ => rfl) rfl (c_lt_F (pF := 76) (s_iload dX12_weightOf_26 rfl) (s_of_xI (x_callV (ts := [(0, 2)]) ck12 rfl kX12_days mokX12_days w8_136 ps5_12 rfl rfl rfl rfl (a_R (ts := []) 0 a_nil (s_aload_n dX12_weightOf_28 rfl rfl) rfl) dX12_weightOf_29 w8_134)) dX12_weightOf_32 rfl) (t_lstore (s_lmul (s_lload dX12_weightOf_35 rfl) (s_T (pT := 47) (pF := 57) (p1 := 54) (pe := 67) (c_ne_ZF (pF := 57) (s_of_xI (x_call (ts := [(0, 0), (1, 0)]) kX12_isBit mokX12_isBit w8_104 rfl rfl rfl (a_I (ts := [(0, 0)]) 1 (a_I (ts := []) 0 a_nil (s_iload dX12_weightOf_37 rfl) rfl) (s_iload dX12_weightOf_39 rfl) rfl) dX12_weightOf_41 w8_103)) dX12_weightOf_44 rfl) (s_i2l (s_dAI (s_getR ck12 17 (by decide) rfl (s_aload_n dX12_weightOf_47 rfl rfl) dX12_weightOf_48 w6_222) (s_iconst dX12_weightOf_51 rfl) dX12_weightOf_52) dX12_weightOf_53) (s_i2l (s_isub (s_bipush dX12_weightOf_57 rfl) (s_dAI (s_getR ck12 17 (by decide) rfl (s_aload_n dX12_weightOf_59 rfl rfl) dX12_weightOf_60 w6_222) (s_iconst dX12_weightOf_63 rfl) dX12_weightOf_64) dX12_weightOf_65) dX12_weightOf_66) (ld_goto (y := 67) dX12_weightOf_54 rfl (ld_in rfl))) dX12_weightOf_67) dX12_weightOf_68 rfl rfl) (t_iinc dX12_weightOf_70 rfl rfl rfl rfl) (lda_cons (ld_in rfl) lda_nil) lda_nil (lda_cons (ld_goto (y := 26) dX12_weightOf_73 rfl (ld_in rfl)) lda_nil) (ld_in rfl) lda_nil
noncomputable def LX12_weightOf_2 : Sm Int64 := dLoop (fun f => (sI (sL (sI (sI (sR fr0 0 (gR f 0)) 1 (gI f 1)) 2 (gI f 2)) 3 (gL f 3)) 5 (gI f 5))) (dCI r_lt (vI 5) (d2 o_ishl (cI 1) (dCallV 12 DX12_days (aR aN 0 (vR 0))))) (dSeq (dSetL 6 (cL 1)) (dSeq (dSeq (dSetI 8 (cI 0)) LX12_weightOf_1) (dSeq (dIf (dCZ q_eq (d2 o_lcmp (vL 6) (cL 0))) dCnt dSkip) (dSeq (dP (fI 12 28) (vR 0) (vI 5)) (dSeq (dDo (dCallV 12 DX12_runs (aR aN 0 (vR 0)))) (dSetL 3 (d2 o_ladd (vL 3) (d2 o_lmul (vL 6) (d1 o_i2l (dT (dCI r_eq (vI 2) (cI (-1))) (dCall DX12_sizeOf (aI aN 0 (dAI (dGR 12 35 (vR 0)) (d2 o_iadd (d2 o_imul (cI 3) (dCallV 12 DX12_days (aR aN 0 (vR 0)))) (vI 1))))) (dT (dCZ q_eq (dCallV 12 DX12_knownLast (aI (aI (aR aN 0 (vR 0)) 1 (vI 1)) 2 (vI 2)))) (cI 0) (cI 1)))))))))))) (dInc 5 1)
theorem sLX12_weightOf_2 {ΓL : Gm} {PB PK : List Nat} : SS (cvoL, .lreturn) miX12_weightOf ΓL PB PK [(0, 2), (1, 0), (2, 0), (3, 1), (5, 0)] [(0, 2), (1, 0), (2, 0), (3, 1), (5, 0)] 9 [147] LX12_weightOf_2 := t_loop (pT := 20) (pF := 147) (pu := 141) (PB' := []) (PK' := [141]) (XB := [141]) (XU := [144]) (fun _ _ => rfl) rfl (c_lt_F (pF := 147) (s_iload dX12_weightOf_9 rfl) (s_ishl (s_iconst dX12_weightOf_11 rfl) (s_of_xI (x_callV (ts := [(0, 2)]) ck12 rfl kX12_days mokX12_days w8_136 ps5_12 rfl rfl rfl rfl (a_R (ts := []) 0 a_nil (s_aload_n dX12_weightOf_12 rfl rfl) rfl) dX12_weightOf_13 w8_134)) dX12_weightOf_16) dX12_weightOf_17 rfl) (t_sq (p1 := 23) (Γ' := [(0, 2), (1, 0), (2, 0), (3, 1), (5, 0), (6, 1)]) (t_lstore (s_lconst dX12_weightOf_20 rfl) dX12_weightOf_21 rfl rfl) (t_sq (p1 := 76) (Γ' := [(0, 2), (1, 0), (2, 0), (3, 1), (5, 0), (6, 1)]) (t_sq (p1 := 26) (Γ' := [(0, 2), (1, 0), (2, 0), (3, 1), (5, 0), (6, 1), (8, 0)]) (t_istore (s_iconst dX12_weightOf_23 rfl) dX12_weightOf_24 rfl rfl) (tn_to (Γ' := [(0, 2), (1, 0), (2, 0), (3, 1), (5, 0), (6, 1), (8, 0)]) (XA := [76]) sLX12_weightOf_1 (lda_cons (ld_in rfl) lda_nil) rfl)) (t_sq (p1 := 86) (Γ' := [(0, 2), (1, 0), (2, 0), (3, 1), (5, 0), (6, 1)]) (t_if (pT := 83) (pF := 86) (X := [86]) (XA := []) (XB := [86]) (c_eq_ZF (pF := 86) (s_lcmp (s_lload dX12_weightOf_76 rfl) (s_lconst dX12_weightOf_78 rfl) dX12_weightOf_79) dX12_weightOf_80 rfl) (t_cnt (ld_goto (y := 141) dX12_weightOf_83 rfl (ld_in rfl)) rfl) (t_skip (ld_in rfl) rfl) lda_nil (lda_cons (ld_in rfl) lda_nil)) (t_sq (p1 := 92) (Γ' := [(0, 2), (1, 0), (2, 0), (3, 1), (5, 0), (6, 1)]) (t_pI ck12 28 (by decide) rfl (Or.inl rfl) (s_aload_n dX12_weightOf_86 rfl rfl) (s_iload dX12_weightOf_87 rfl) dX12_weightOf_89 w6_233 rfl) (t_sq (p1 := 96) (Γ' := [(0, 2), (1, 0), (2, 0), (3, 1), (5, 0), (6, 1)]) (t_do (x_callV (ts := [(0, 2)]) ck12 rfl kX12_runs mokX12_runs w8_144 ps5_14 rfl rfl rfl rfl (a_R (ts := []) 0 a_nil (s_aload_n dX12_weightOf_92 rfl rfl) rfl) dX12_weightOf_93 w8_142) rfl) (t_lstore_n (s_ladd (s_lload_n dX12_weightOf_96 rfl rfl) (s_lmul (s_lload dX12_weightOf_97 rfl) (s_i2l (s_T (pT := 104) (pF := 123) (p1 := 120) (pe := 137) (c_eq_F (pF := 123) (s_iload_n dX12_weightOf_99 rfl rfl) (s_iconst dX12_weightOf_100 rfl) dX12_weightOf_101 rfl) (s_of_xI (x_call (ts := [(0, 0)]) kX12_sizeOf mokX12_sizeOf w9_11 rfl rfl rfl (a_I (ts := []) 0 a_nil (s_dAI (s_getR ck12 35 (by decide) rfl (s_aload_n dX12_weightOf_104 rfl rfl) dX12_weightOf_105 w7_0) (s_iadd (s_imul (s_iconst dX12_weightOf_108 rfl) (s_of_xI (x_callV (ts := [(0, 2)]) ck12 rfl kX12_days mokX12_days w8_136 ps5_12 rfl rfl rfl rfl (a_R (ts := []) 0 a_nil (s_aload_n dX12_weightOf_109 rfl rfl) rfl) dX12_weightOf_110 w8_134)) dX12_weightOf_113) (s_iload_n dX12_weightOf_114 rfl rfl) dX12_weightOf_115) dX12_weightOf_116) rfl) dX12_weightOf_117 w9_10)) (s_T (pT := 132) (pF := 136) (p1 := 133) (pe := 137) (c_eq_ZF (pF := 136) (s_of_xI (x_callV (ts := [(0, 2), (1, 0), (2, 0)]) ck12 rfl kX12_knownLast mokX12_knownLast w9_19 ps6_9 rfl rfl rfl rfl (a_I (ts := [(0, 2), (1, 0)]) 2 (a_I (ts := [(0, 2)]) 1 (a_R (ts := []) 0 a_nil (s_aload_n dX12_weightOf_123 rfl rfl) rfl) (s_iload_n dX12_weightOf_124 rfl rfl) rfl) (s_iload_n dX12_weightOf_125 rfl rfl) rfl) dX12_weightOf_126 w9_17)) dX12_weightOf_129 rfl) (s_iconst dX12_weightOf_132 rfl) (s_iconst dX12_weightOf_136 rfl) (ld_goto (y := 137) dX12_weightOf_133 rfl (ld_in rfl))) (ld_goto (y := 137) dX12_weightOf_120 rfl (ld_in rfl))) dX12_weightOf_137) dX12_weightOf_138) dX12_weightOf_139) dX12_weightOf_140 rfl rfl rfl)))))) (t_iinc dX12_weightOf_141 rfl rfl rfl rfl) (lda_cons (ld_in rfl) lda_nil) (lda_cons (ld_in rfl) lda_nil) (lda_cons (ld_goto (y := 9) dX12_weightOf_144 rfl (ld_in rfl)) lda_nil) (ld_in rfl) lda_nil
noncomputable def BX12_weightOf : Sm Int64 := (dSeq (dDo (dCallV 12 DX12_lays (aR aN 0 (vR 0)))) (dSeq (dSetL 3 (cL 0)) (dSeq (dSeq (dSetI 5 (cI 0)) LX12_weightOf_2) (dRet (vL 3)))))
theorem sBX12_weightOf : SS (cvoL, .lreturn) miX12_weightOf [] [] [] [(0, 2), (1, 0), (2, 0)] [(0, 2), (1, 0), (2, 0)] 0 [] BX12_weightOf := (t_sq (p1 := 4) (Γ' := [(0, 2), (1, 0), (2, 0)]) (t_do (x_callV (ts := [(0, 2)]) ck12 rfl kX12_lays mokX12_lays w8_97 ps5_6 rfl rfl rfl rfl (a_R (ts := []) 0 a_nil (s_aload_n dX12_weightOf_0 rfl rfl) rfl) dX12_weightOf_1 w8_95) rfl) (t_sq (p1 := 6) (Γ' := [(0, 2), (1, 0), (2, 0), (3, 1)]) (t_lstore_n (s_lconst dX12_weightOf_4 rfl) dX12_weightOf_5 rfl rfl rfl) (t_sq (p1 := 147) (Γ' := [(0, 2), (1, 0), (2, 0), (3, 1)]) (t_sq (p1 := 9) (Γ' := [(0, 2), (1, 0), (2, 0), (3, 1), (5, 0)]) (t_istore (s_iconst dX12_weightOf_6 rfl) dX12_weightOf_7 rfl rfl) (tn_to (Γ' := [(0, 2), (1, 0), (2, 0), (3, 1), (5, 0)]) (XA := [147]) sLX12_weightOf_2 (lda_cons (ld_in rfl) lda_nil) rfl)) (t_ret (cv := cvL) (fun _ _ => rfl) (s_lload_n dX12_weightOf_147 rfl rfl) dX12_weightOf_148))))
noncomputable def DX12_weightOf : Fr → St → Option (Int64 × St) := M1 (fun f => (sI (sI (sR fr0 0 (gR f 0)) 1 (gI f 1)) 2 (gI f 2))) BX12_weightOf
theorem kX12_weightOf : SND yX12_weightOf cX12_weightOf 9 (some .long) 5 [(0, 2), (1, 0), (2, 0)] cvoL DX12_weightOf := snd_L (nw := 3) (by decide) rfl rfl (fun _ _ => rfl) sBX12_weightOf
theorem dX12_chance_0 : decode cX12_chance 0 = .ok (.aload_n 0, 1) := by decide +kernel
theorem dX12_chance_1 : decode cX12_chance 1 = .ok (.iconst 0, 1) := by decide +kernel
theorem dX12_chance_2 : decode cX12_chance 2 = .ok (.putfield 122, 3) := by decide +kernel
theorem dX12_chance_5 : decode cX12_chance 5 = .ok (.aload_n 0, 1) := by decide +kernel
theorem dX12_chance_6 : decode cX12_chance 6 = .ok (.iload_n 1, 1) := by decide +kernel
theorem dX12_chance_7 : decode cX12_chance 7 = .ok (.invokevirtual 372, 3) := by decide +kernel
theorem dX12_chance_10 : decode cX12_chance 10 = .ok (.ifCond .eq 19, 3) := by decide +kernel
theorem dX12_chance_13 : decode cX12_chance 13 = .ok (.aload_n 0, 1) := by decide +kernel
theorem dX12_chance_14 : decode cX12_chance 14 = .ok (.iload_n 2, 1) := by decide +kernel
theorem dX12_chance_15 : decode cX12_chance 15 = .ok (.i2l, 1) := by decide +kernel
theorem dX12_chance_16 : decode cX12_chance 16 = .ok (.invokevirtual 307, 3) := by decide +kernel
theorem dX12_chance_19 : decode cX12_chance 19 = .ok (.ifCond .eq 10, 3) := by decide +kernel
theorem dX12_chance_22 : decode cX12_chance 22 = .ok (.iload_n 3, 1) := by decide +kernel
theorem dX12_chance_23 : decode cX12_chance 23 = .ok (.invokestatic 369, 3) := by decide +kernel
theorem dX12_chance_26 : decode cX12_chance 26 = .ok (.ifCond .ne 6, 3) := by decide +kernel
theorem dX12_chance_29 : decode cX12_chance 29 = .ok (.bipush (-2), 2) := by decide +kernel
theorem dX12_chance_31 : decode cX12_chance 31 = .ok (.ireturn, 1) := by decide +kernel
theorem dX12_chance_32 : decode cX12_chance 32 = .ok (.aload_n 0, 1) := by decide +kernel
theorem dX12_chance_33 : decode cX12_chance 33 = .ok (.invokevirtual 304, 3) := by decide +kernel
theorem dX12_chance_36 : decode cX12_chance 36 = .ok (.bipush 8, 2) := by decide +kernel
theorem dX12_chance_38 : decode cX12_chance 38 = .ok (.if_icmp .le 8, 3) := by decide +kernel
theorem dX12_chance_41 : decode cX12_chance 41 = .ok (.bipush (-3), 2) := by decide +kernel
theorem dX12_chance_43 : decode cX12_chance 43 = .ok (.goto 18, 3) := by decide +kernel
theorem dX12_chance_46 : decode cX12_chance 46 = .ok (.aload_n 0, 1) := by decide +kernel
theorem dX12_chance_47 : decode cX12_chance 47 = .ok (.iload_n 1, 1) := by decide +kernel
theorem dX12_chance_48 : decode cX12_chance 48 = .ok (.iload_n 2, 1) := by decide +kernel
theorem dX12_chance_49 : decode cX12_chance 49 = .ok (.invokevirtual 467, 3) := by decide +kernel
theorem dX12_chance_52 : decode cX12_chance 52 = .ok (.aload_n 0, 1) := by decide +kernel
theorem dX12_chance_53 : decode cX12_chance 53 = .ok (.invokevirtual 471, 3) := by decide +kernel
theorem dX12_chance_56 : decode cX12_chance 56 = .ok (.iload_n 3, 1) := by decide +kernel
theorem dX12_chance_57 : decode cX12_chance 57 = .ok (.invokestatic 433, 3) := by decide +kernel
theorem dX12_chance_60 : decode cX12_chance 60 = .ok (.l2i, 1) := by decide +kernel
theorem dX12_chance_61 : decode cX12_chance 61 = .ok (.ireturn, 1) := by decide +kernel
theorem mokX12_chance : MOK yX12_chance cX12_chance 4 (some .int) 3 := ⟨w9_170, w1_13, ⟨by decide, by decide⟩, by decide +kernel, by decide⟩
abbrev miX12_chance : MI := (yX12_chance.cls, cX12_chance, 4, 102, false)
noncomputable def BX12_chance : Sm Int32 := (dSeq (dP (fI 12 0) (vR 0) (cI 0)) (dSeq (dIf (dOr (dOr (dNot (dCZ q_ne (dCallV 12 DX12_isSlate (aI (aR aN 0 (vR 0)) 1 (vI 1))))) (dNot (dCZ q_ne (dCallV 12 DX12_isHouse (aL (aR aN 0 (vR 0)) 1 (d1 o_i2l (vI 2))))))) (dNot (dCZ q_ne (dCall DX12_isHalf (aI aN 0 (vI 3)))))) (dRet (cI (-2))) dSkip) (dRet (dT (dCI r_gt (dCallV 12 DX12_days (aR aN 0 (vR 0))) (cI 8)) (cI (-3)) (d1 o_l2i (dCall DX12_part (aI (aL (aL aN 0 (dCallV 12 DX12_weightOf (aI (aI (aR aN 0 (vR 0)) 1 (vI 1)) 2 (vI 2)))) 2 (dCallV 12 DX12_tens (aR aN 0 (vR 0)))) 4 (vI 3))))))))
theorem sBX12_chance : SS (cvoI, .ireturn) miX12_chance [] [] [] [(0, 2), (1, 0), (2, 0), (3, 0)] [(0, 2), (1, 0), (2, 0), (3, 0)] 0 [] BX12_chance := (t_sq (p1 := 5) (Γ' := [(0, 2), (1, 0), (2, 0), (3, 0)]) (t_pI ck12 0 (by decide) rfl (Or.inl rfl) (s_aload_n dX12_chance_0 rfl rfl) (s_iconst dX12_chance_1 rfl) dX12_chance_2 w6_205 rfl) (t_sq (p1 := 32) (Γ' := [(0, 2), (1, 0), (2, 0), (3, 0)]) (t_if (pT := 29) (pF := 32) (X := [32]) (XA := []) (XB := [32]) (c_or (p1 := 22) (pT := 29) (pF := 32) (c_or (p1 := 13) (pT := 29) (pF := 22) (c_not (pT := 29) (pF := 13) (c_ne_ZF (pF := 29) (s_of_xI (x_callV (ts := [(0, 2), (1, 0)]) ck12 rfl kX12_isSlate mokX12_isSlate w8_85 ps5_4 rfl rfl rfl rfl (a_I (ts := [(0, 2)]) 1 (a_R (ts := []) 0 a_nil (s_aload_n dX12_chance_5 rfl rfl) rfl) (s_iload_n dX12_chance_6 rfl rfl) rfl) dX12_chance_7 w8_83)) dX12_chance_10 rfl)) (c_not (pT := 29) (pF := 22) (c_ne_ZF (pF := 29) (s_of_xI (x_callV (ts := [(0, 2), (1, 1)]) ck12 rfl kX12_isHouse mokX12_isHouse w8_58 ps5_0 rfl rfl rfl rfl (a_L (ts := [(0, 2)]) 1 (a_R (ts := []) 0 a_nil (s_aload_n dX12_chance_13 rfl rfl) rfl) (s_i2l (s_iload_n dX12_chance_14 rfl rfl) dX12_chance_15) rfl) dX12_chance_16 w8_56)) dX12_chance_19 rfl))) (c_not (pT := 29) (pF := 32) (c_ne_ZJ (pT := 32) (s_of_xI (x_call (ts := [(0, 0)]) kX12_isHalf mokX12_isHalf w8_77 rfl rfl rfl (a_I (ts := []) 0 a_nil (s_iload_n dX12_chance_22 rfl rfl) rfl) dX12_chance_23 w8_76)) dX12_chance_26 rfl))) (t_ret (cv := cvI) (fun _ _ => rfl) (s_bipush dX12_chance_29 rfl) dX12_chance_31) (t_skip (ld_in rfl) rfl) lda_nil (lda_cons (ld_in rfl) lda_nil)) (t_ret (cv := cvI) (fun _ _ => rfl) (s_T (pT := 41) (pF := 46) (p1 := 43) (pe := 61) (c_gt_F (pF := 46) (s_of_xI (x_callV (ts := [(0, 2)]) ck12 rfl kX12_days mokX12_days w8_136 ps5_12 rfl rfl rfl rfl (a_R (ts := []) 0 a_nil (s_aload_n dX12_chance_32 rfl rfl) rfl) dX12_chance_33 w8_134)) (s_bipush dX12_chance_36 rfl) dX12_chance_38 rfl) (s_bipush dX12_chance_41 rfl) (s_l2i (s_of_xL (x_call (ts := [(0, 1), (2, 1), (4, 0)]) kX12_part mokX12_part w9_98 rfl rfl rfl (a_I (ts := [(0, 1), (2, 1)]) 4 (a_L (ts := [(0, 1)]) 2 (a_L (ts := []) 0 a_nil (s_of_xL (x_callV (ts := [(0, 2), (1, 0), (2, 0)]) ck12 rfl kX12_weightOf mokX12_weightOf w9_173 ps7_8 rfl rfl rfl rfl (a_I (ts := [(0, 2), (1, 0)]) 2 (a_I (ts := [(0, 2)]) 1 (a_R (ts := []) 0 a_nil (s_aload_n dX12_chance_46 rfl rfl) rfl) (s_iload_n dX12_chance_47 rfl rfl) rfl) (s_iload_n dX12_chance_48 rfl rfl) rfl) dX12_chance_49 w9_171)) rfl) (s_of_xL (x_callV (ts := [(0, 2)]) ck12 rfl kX12_tens mokX12_tens w9_177 ps7_9 rfl rfl rfl rfl (a_R (ts := []) 0 a_nil (s_aload_n dX12_chance_52 rfl rfl) rfl) dX12_chance_53 w9_175)) rfl) (s_iload_n dX12_chance_56 rfl rfl) rfl) dX12_chance_57 w9_97)) dX12_chance_60) (ld_goto (y := 61) dX12_chance_43 rfl (ld_in rfl))) dX12_chance_61)))
noncomputable def DX12_chance : Fr → St → Option (Int32 × St) := M1 (fun f => (sI (sI (sI (sR fr0 0 (gR f 0)) 1 (gI f 1)) 2 (gI f 2)) 3 (gI f 3))) BX12_chance
theorem kX12_chance : SND yX12_chance cX12_chance 4 (some .int) 102 [(0, 2), (1, 0), (2, 0), (3, 0)] cvoI DX12_chance := snd_I (nw := 4) (by decide) rfl rfl (fun _ _ => rfl) sBX12_chance
theorem dX12_mean_0 : decode cX12_mean 0 = .ok (.aload_n 0, 1) := by decide +kernel
theorem dX12_mean_1 : decode cX12_mean 1 = .ok (.iconst 0, 1) := by decide +kernel
theorem dX12_mean_2 : decode cX12_mean 2 = .ok (.putfield 122, 3) := by decide +kernel
theorem dX12_mean_5 : decode cX12_mean 5 = .ok (.aload_n 0, 1) := by decide +kernel
theorem dX12_mean_6 : decode cX12_mean 6 = .ok (.iload_n 1, 1) := by decide +kernel
theorem dX12_mean_7 : decode cX12_mean 7 = .ok (.invokevirtual 372, 3) := by decide +kernel
theorem dX12_mean_10 : decode cX12_mean 10 = .ok (.ifCond .eq 10, 3) := by decide +kernel
theorem dX12_mean_13 : decode cX12_mean 13 = .ok (.iload_n 2, 1) := by decide +kernel
theorem dX12_mean_14 : decode cX12_mean 14 = .ok (.invokestatic 369, 3) := by decide +kernel
theorem dX12_mean_17 : decode cX12_mean 17 = .ok (.ifCond .ne 7, 3) := by decide +kernel
theorem dX12_mean_20 : decode cX12_mean 20 = .ok (.ldc2_w 475, 3) := by decide +kernel
theorem dX12_mean_23 : decode cX12_mean 23 = .ok (.lreturn, 1) := by decide +kernel
theorem dX12_mean_24 : decode cX12_mean 24 = .ok (.aload_n 0, 1) := by decide +kernel
theorem dX12_mean_25 : decode cX12_mean 25 = .ok (.invokevirtual 304, 3) := by decide +kernel
theorem dX12_mean_28 : decode cX12_mean 28 = .ok (.bipush 8, 2) := by decide +kernel
theorem dX12_mean_30 : decode cX12_mean 30 = .ok (.if_icmp .le 9, 3) := by decide +kernel
theorem dX12_mean_33 : decode cX12_mean 33 = .ok (.ldc2_w 477, 3) := by decide +kernel
theorem dX12_mean_36 : decode cX12_mean 36 = .ok (.goto 17, 3) := by decide +kernel
theorem dX12_mean_39 : decode cX12_mean 39 = .ok (.aload_n 0, 1) := by decide +kernel
theorem dX12_mean_40 : decode cX12_mean 40 = .ok (.iload_n 1, 1) := by decide +kernel
theorem dX12_mean_41 : decode cX12_mean 41 = .ok (.iconst (-1), 1) := by decide +kernel
theorem dX12_mean_42 : decode cX12_mean 42 = .ok (.invokevirtual 467, 3) := by decide +kernel
theorem dX12_mean_45 : decode cX12_mean 45 = .ok (.aload_n 0, 1) := by decide +kernel
theorem dX12_mean_46 : decode cX12_mean 46 = .ok (.invokevirtual 471, 3) := by decide +kernel
theorem dX12_mean_49 : decode cX12_mean 49 = .ok (.iload_n 2, 1) := by decide +kernel
theorem dX12_mean_50 : decode cX12_mean 50 = .ok (.invokestatic 433, 3) := by decide +kernel
theorem dX12_mean_53 : decode cX12_mean 53 = .ok (.lreturn, 1) := by decide +kernel
theorem mokX12_mean : MOK yX12_mean cX12_mean 3 (some .long) 2 := ⟨w9_183, w1_13, ⟨by decide, by decide⟩, by decide +kernel, by decide⟩
abbrev miX12_mean : MI := (yX12_mean.cls, cX12_mean, 3, 102, false)
noncomputable def BX12_mean : Sm Int64 := (dSeq (dP (fI 12 0) (vR 0) (cI 0)) (dSeq (dIf (dOr (dNot (dCZ q_ne (dCallV 12 DX12_isSlate (aI (aR aN 0 (vR 0)) 1 (vI 1))))) (dNot (dCZ q_ne (dCall DX12_isHalf (aI aN 0 (vI 2)))))) (dRet (cL (-2))) dSkip) (dRet (dT (dCI r_gt (dCallV 12 DX12_days (aR aN 0 (vR 0))) (cI 8)) (cL (-3)) (dCall DX12_part (aI (aL (aL aN 0 (dCallV 12 DX12_weightOf (aI (aI (aR aN 0 (vR 0)) 1 (vI 1)) 2 (cI (-1))))) 2 (dCallV 12 DX12_tens (aR aN 0 (vR 0)))) 4 (vI 2)))))))
theorem sBX12_mean : SS (cvoL, .lreturn) miX12_mean [] [] [] [(0, 2), (1, 0), (2, 0)] [(0, 2), (1, 0), (2, 0)] 0 [] BX12_mean := (t_sq (p1 := 5) (Γ' := [(0, 2), (1, 0), (2, 0)]) (t_pI ck12 0 (by decide) rfl (Or.inl rfl) (s_aload_n dX12_mean_0 rfl rfl) (s_iconst dX12_mean_1 rfl) dX12_mean_2 w6_205 rfl) (t_sq (p1 := 24) (Γ' := [(0, 2), (1, 0), (2, 0)]) (t_if (pT := 20) (pF := 24) (X := [24]) (XA := []) (XB := [24]) (c_or (p1 := 13) (pT := 20) (pF := 24) (c_not (pT := 20) (pF := 13) (c_ne_ZF (pF := 20) (s_of_xI (x_callV (ts := [(0, 2), (1, 0)]) ck12 rfl kX12_isSlate mokX12_isSlate w8_85 ps5_4 rfl rfl rfl rfl (a_I (ts := [(0, 2)]) 1 (a_R (ts := []) 0 a_nil (s_aload_n dX12_mean_5 rfl rfl) rfl) (s_iload_n dX12_mean_6 rfl rfl) rfl) dX12_mean_7 w8_83)) dX12_mean_10 rfl)) (c_not (pT := 20) (pF := 24) (c_ne_ZJ (pT := 24) (s_of_xI (x_call (ts := [(0, 0)]) kX12_isHalf mokX12_isHalf w8_77 rfl rfl rfl (a_I (ts := []) 0 a_nil (s_iload_n dX12_mean_13 rfl rfl) rfl) dX12_mean_14 w8_76)) dX12_mean_17 rfl))) (t_ret (cv := cvL) (fun _ _ => rfl) (s_ldc2 dX12_mean_20 w9_184) dX12_mean_23) (t_skip (ld_in rfl) rfl) lda_nil (lda_cons (ld_in rfl) lda_nil)) (t_ret (cv := cvL) (fun _ _ => rfl) (s_T (pT := 33) (pF := 39) (p1 := 36) (pe := 53) (c_gt_F (pF := 39) (s_of_xI (x_callV (ts := [(0, 2)]) ck12 rfl kX12_days mokX12_days w8_136 ps5_12 rfl rfl rfl rfl (a_R (ts := []) 0 a_nil (s_aload_n dX12_mean_24 rfl rfl) rfl) dX12_mean_25 w8_134)) (s_bipush dX12_mean_28 rfl) dX12_mean_30 rfl) (s_ldc2 dX12_mean_33 w9_185) (s_of_xL (x_call (ts := [(0, 1), (2, 1), (4, 0)]) kX12_part mokX12_part w9_98 rfl rfl rfl (a_I (ts := [(0, 1), (2, 1)]) 4 (a_L (ts := [(0, 1)]) 2 (a_L (ts := []) 0 a_nil (s_of_xL (x_callV (ts := [(0, 2), (1, 0), (2, 0)]) ck12 rfl kX12_weightOf mokX12_weightOf w9_173 ps7_8 rfl rfl rfl rfl (a_I (ts := [(0, 2), (1, 0)]) 2 (a_I (ts := [(0, 2)]) 1 (a_R (ts := []) 0 a_nil (s_aload_n dX12_mean_39 rfl rfl) rfl) (s_iload_n dX12_mean_40 rfl rfl) rfl) (s_iconst dX12_mean_41 rfl) rfl) dX12_mean_42 w9_171)) rfl) (s_of_xL (x_callV (ts := [(0, 2)]) ck12 rfl kX12_tens mokX12_tens w9_177 ps7_9 rfl rfl rfl rfl (a_R (ts := []) 0 a_nil (s_aload_n dX12_mean_45 rfl rfl) rfl) dX12_mean_46 w9_175)) rfl) (s_iload_n dX12_mean_49 rfl rfl) rfl) dX12_mean_50 w9_97)) (ld_goto (y := 53) dX12_mean_36 rfl (ld_in rfl))) dX12_mean_53)))
noncomputable def DX12_mean : Fr → St → Option (Int64 × St) := M1 (fun f => (sI (sI (sR fr0 0 (gR f 0)) 1 (gI f 1)) 2 (gI f 2))) BX12_mean
theorem kX12_mean : SND yX12_mean cX12_mean 3 (some .long) 102 [(0, 2), (1, 0), (2, 0)] cvoL DX12_mean := snd_L (nw := 3) (by decide) rfl rfl (fun _ _ => rfl) sBX12_mean
theorem dX12_draws_0 : decode cX12_draws 0 = .ok (.aload_n 0, 1) := by decide +kernel
theorem dX12_draws_1 : decode cX12_draws 1 = .ok (.invokevirtual 360, 3) := by decide +kernel
theorem dX12_draws_4 : decode cX12_draws 4 = .ok (.lload_n 1, 1) := by decide +kernel
theorem dX12_draws_5 : decode cX12_draws 5 = .ok (.lstore_n 3, 1) := by decide +kernel
theorem dX12_draws_6 : decode cX12_draws 6 = .ok (.iconst 0, 1) := by decide +kernel
theorem dX12_draws_7 : decode cX12_draws 7 = .ok (.istore 5, 2) := by decide +kernel
theorem dX12_draws_9 : decode cX12_draws 9 = .ok (.iload 5, 2) := by decide +kernel
theorem dX12_draws_11 : decode cX12_draws 11 = .ok (.aload_n 0, 1) := by decide +kernel
theorem dX12_draws_12 : decode cX12_draws 12 = .ok (.invokevirtual 304, 3) := by decide +kernel
theorem dX12_draws_15 : decode cX12_draws 15 = .ok (.if_icmp .ge 60, 3) := by decide +kernel
theorem dX12_draws_18 : decode cX12_draws 18 = .ok (.ldc2_w 479, 3) := by decide +kernel
theorem dX12_draws_21 : decode cX12_draws 21 = .ok (.lload_n 3, 1) := by decide +kernel
theorem dX12_draws_22 : decode cX12_draws 22 = .ok (.lmul, 1) := by decide +kernel
theorem dX12_draws_23 : decode cX12_draws 23 = .ok (.ldc2_w 481, 3) := by decide +kernel
theorem dX12_draws_26 : decode cX12_draws 26 = .ok (.ladd, 1) := by decide +kernel
theorem dX12_draws_27 : decode cX12_draws 27 = .ok (.ldc2_w 483, 3) := by decide +kernel
theorem dX12_draws_30 : decode cX12_draws 30 = .ok (.lrem, 1) := by decide +kernel
theorem dX12_draws_31 : decode cX12_draws 31 = .ok (.lstore_n 3, 1) := by decide +kernel
theorem dX12_draws_32 : decode cX12_draws 32 = .ok (.aload_n 0, 1) := by decide +kernel
theorem dX12_draws_33 : decode cX12_draws 33 = .ok (.dup, 1) := by decide +kernel
theorem dX12_draws_34 : decode cX12_draws 34 = .ok (.getfield 313, 3) := by decide +kernel
theorem dX12_draws_37 : decode cX12_draws 37 = .ok (.lload_n 3, 1) := by decide +kernel
theorem dX12_draws_38 : decode cX12_draws 38 = .ok (.ldc2_w 485, 3) := by decide +kernel
theorem dX12_draws_41 : decode cX12_draws 41 = .ok (.ldiv, 1) := by decide +kernel
theorem dX12_draws_42 : decode cX12_draws 42 = .ok (.ldc2_w 465, 3) := by decide +kernel
theorem dX12_draws_45 : decode cX12_draws 45 = .ok (.lrem, 1) := by decide +kernel
theorem dX12_draws_46 : decode cX12_draws 46 = .ok (.aload_n 0, 1) := by decide +kernel
theorem dX12_draws_47 : decode cX12_draws 47 = .ok (.getfield 34, 3) := by decide +kernel
theorem dX12_draws_50 : decode cX12_draws 50 = .ok (.iconst 2, 1) := by decide +kernel
theorem dX12_draws_51 : decode cX12_draws 51 = .ok (.iaload, 1) := by decide +kernel
theorem dX12_draws_52 : decode cX12_draws 52 = .ok (.i2l, 1) := by decide +kernel
theorem dX12_draws_53 : decode cX12_draws 53 = .ok (.lcmp, 1) := by decide +kernel
theorem dX12_draws_54 : decode cX12_draws 54 = .ok (.ifCond .ge 10, 3) := by decide +kernel
theorem dX12_draws_57 : decode cX12_draws 57 = .ok (.iconst 1, 1) := by decide +kernel
theorem dX12_draws_58 : decode cX12_draws 58 = .ok (.iload 5, 2) := by decide +kernel
theorem dX12_draws_60 : decode cX12_draws 60 = .ok (.ishl, 1) := by decide +kernel
theorem dX12_draws_61 : decode cX12_draws 61 = .ok (.goto 4, 3) := by decide +kernel
theorem dX12_draws_64 : decode cX12_draws 64 = .ok (.iconst 0, 1) := by decide +kernel
theorem dX12_draws_65 : decode cX12_draws 65 = .ok (.ior, 1) := by decide +kernel
theorem dX12_draws_66 : decode cX12_draws 66 = .ok (.putfield 313, 3) := by decide +kernel
theorem dX12_draws_69 : decode cX12_draws 69 = .ok (.iinc 5 1, 3) := by decide +kernel
theorem dX12_draws_72 : decode cX12_draws 72 = .ok (.goto (-63), 3) := by decide +kernel
theorem dX12_draws_75 : decode cX12_draws 75 = .ok (.aload_n 0, 1) := by decide +kernel
theorem dX12_draws_76 : decode cX12_draws 76 = .ok (.invokevirtual 363, 3) := by decide +kernel
theorem dX12_draws_79 : decode cX12_draws 79 = .ok (.return_, 1) := by decide +kernel
theorem mokX12_draws : MOK yX12_draws cX12_draws 6 none 1 := ⟨w9_197, w1_13, ⟨by decide, by decide⟩, by decide +kernel, by decide⟩
abbrev miX12_draws : MI := (yX12_draws.cls, cX12_draws, 6, 5, false)
noncomputable def LX12_draws_1 : Sm Unit := dLoop (fun f => (sI (sL (sL (sR fr0 0 (gR f 0)) 1 (gL f 1)) 3 (gL f 3)) 5 (gI f 5))) (dCI r_lt (vI 5) (dCallV 12 DX12_days (aR aN 0 (vR 0)))) (dSeq (dSetL 3 (d2z o_lrem (d2 o_ladd (d2 o_lmul (cL 1103515245) (vL 3)) (cL 12345)) (cL 2147483648))) (dUF 12 28 o_ior (vR 0) (dT (dCZ q_lt (d2 o_lcmp (d2z o_lrem (d2z o_ldiv (vL 3) (cL 65536)) (cL 10)) (d1 o_i2l (dAI (dGR 12 17 (vR 0)) (cI 2))))) (d2 o_ishl (cI 1) (vI 5)) (cI 0)))) (dInc 5 1)
theorem sLX12_draws_1 {ΓL : Gm} {PB PK : List Nat} : SS (cvoV, .return_) miX12_draws ΓL PB PK [(0, 2), (1, 1), (3, 1), (5, 0)] [(0, 2), (1, 1), (3, 1), (5, 0)] 9 [75] LX12_draws_1 := t_loop (pT := 18) (pF := 75) (pu := 69) (PB' := []) (PK' := []) (XB := [69]) (XU := [72]) (fun _ _ => rfl) rfl (c_lt_F (pF := 75) (s_iload dX12_draws_9 rfl) (s_of_xI (x_callV (ts := [(0, 2)]) ck12 rfl kX12_days mokX12_days w8_136 ps5_12 rfl rfl rfl rfl (a_R (ts := []) 0 a_nil (s_aload_n dX12_draws_11 rfl rfl) rfl) dX12_draws_12 w8_134)) dX12_draws_15 rfl) (t_sq (p1 := 32) (Γ' := [(0, 2), (1, 1), (3, 1), (5, 0)]) (t_lstore_n (s_lrem (s_ladd (s_lmul (s_ldc2 dX12_draws_18 w9_198) (s_lload_n dX12_draws_21 rfl rfl) dX12_draws_22) (s_ldc2 dX12_draws_23 w9_199) dX12_draws_26) (s_ldc2 dX12_draws_27 w9_200) dX12_draws_30) dX12_draws_31 rfl rfl rfl) (t_UF ck12 28 (by decide) rfl (Or.inl rfl) (s_aload_n dX12_draws_32 rfl rfl) dX12_draws_33 dX12_draws_34 w6_233 (s_T (pT := 57) (pF := 64) (p1 := 61) (pe := 65) (c_lt_ZF (pF := 64) (s_lcmp (s_lrem (s_ldiv (s_lload_n dX12_draws_37 rfl rfl) (s_ldc2 dX12_draws_38 w9_201) dX12_draws_41) (s_ldc2 dX12_draws_42 w9_179) dX12_draws_45) (s_i2l (s_dAI (s_getR ck12 17 (by decide) rfl (s_aload_n dX12_draws_46 rfl rfl) dX12_draws_47 w6_222) (s_iconst dX12_draws_50 rfl) dX12_draws_51) dX12_draws_52) dX12_draws_53) dX12_draws_54 rfl) (s_ishl (s_iconst dX12_draws_57 rfl) (s_iload dX12_draws_58 rfl) dX12_draws_60) (s_iconst dX12_draws_64 rfl) (ld_goto (y := 65) dX12_draws_61 rfl (ld_in rfl))) (fun _ _ _ _ => rulI fun a b K => lv_ior a b dX12_draws_65 K) dX12_draws_66 w6_233 rfl)) (t_iinc dX12_draws_69 rfl rfl rfl rfl) (lda_cons (ld_in rfl) lda_nil) lda_nil (lda_cons (ld_goto (y := 9) dX12_draws_72 rfl (ld_in rfl)) lda_nil) (ld_in rfl) lda_nil
noncomputable def BX12_draws : Sm Unit := (dSeq (dDo (dCallV 12 DX12_lays (aR aN 0 (vR 0)))) (dSeq (dSetL 3 (vL 1)) (dSeq (dSeq (dSetI 5 (cI 0)) LX12_draws_1) (dSeq (dDo (dCallV 12 DX12_runs (aR aN 0 (vR 0)))) dRet0))))
theorem sBX12_draws : SS (cvoV, .return_) miX12_draws [] [] [] [(0, 2), (1, 1)] [(0, 2), (1, 1)] 0 [] BX12_draws := (t_sq (p1 := 4) (Γ' := [(0, 2), (1, 1)]) (t_do (x_callV (ts := [(0, 2)]) ck12 rfl kX12_lays mokX12_lays w8_97 ps5_6 rfl rfl rfl rfl (a_R (ts := []) 0 a_nil (s_aload_n dX12_draws_0 rfl rfl) rfl) dX12_draws_1 w8_95) rfl) (t_sq (p1 := 6) (Γ' := [(0, 2), (1, 1), (3, 1)]) (t_lstore_n (s_lload_n dX12_draws_4 rfl rfl) dX12_draws_5 rfl rfl rfl) (t_sq (p1 := 75) (Γ' := [(0, 2), (1, 1), (3, 1)]) (t_sq (p1 := 9) (Γ' := [(0, 2), (1, 1), (3, 1), (5, 0)]) (t_istore (s_iconst dX12_draws_6 rfl) dX12_draws_7 rfl rfl) (tn_to (Γ' := [(0, 2), (1, 1), (3, 1), (5, 0)]) (XA := [75]) sLX12_draws_1 (lda_cons (ld_in rfl) lda_nil) rfl)) (t_sq (p1 := 79) (Γ' := [(0, 2), (1, 1), (3, 1)]) (t_do (x_callV (ts := [(0, 2)]) ck12 rfl kX12_runs mokX12_runs w8_144 ps5_14 rfl rfl rfl rfl (a_R (ts := []) 0 a_nil (s_aload_n dX12_draws_75 rfl rfl) rfl) dX12_draws_76 w8_142) rfl) (t_ret0 (fun _ _ => rfl) dX12_draws_79)))))
noncomputable def DX12_draws : Fr → St → Option (Unit × St) := M1 (fun f => (sL (sR fr0 0 (gR f 0)) 1 (gL f 1))) BX12_draws
theorem kX12_draws : SND yX12_draws cX12_draws 6 none 5 [(0, 2), (1, 1)] cvoV DX12_draws := snd_V (nw := 3) (by decide) (fun z => by cases z) rfl rfl (fun _ _ => rfl) sBX12_draws
theorem dX12_isSeed_0 : decode cX12_isSeed 0 = .ok (.iload_n 0, 1) := by decide +kernel
theorem dX12_isSeed_1 : decode cX12_isSeed 1 = .ok (.i2l, 1) := by decide +kernel
theorem dX12_isSeed_2 : decode cX12_isSeed 2 = .ok (.lconst 0, 1) := by decide +kernel
theorem dX12_isSeed_3 : decode cX12_isSeed 3 = .ok (.ldc2_w 487, 3) := by decide +kernel
theorem dX12_isSeed_6 : decode cX12_isSeed 6 = .ok (.invokestatic 127, 3) := by decide +kernel
theorem dX12_isSeed_9 : decode cX12_isSeed 9 = .ok (.ireturn, 1) := by decide +kernel
theorem mokX12_isSeed : MOK yX12_isSeed cX12_isSeed 1 (some .boolean) 1 := ⟨w9_192, w1_13, ⟨by decide, by decide⟩, by decide +kernel, by decide⟩
abbrev miX12_isSeed : MI := (yX12_isSeed.cls, cX12_isSeed, 1, 2, false)
noncomputable def BX12_isSeed : Sm Int32 := (dRet (dCall DX12_in (aL (aL (aL aN 0 (d1 o_i2l (vI 0))) 2 (cL 0)) 4 (cL 2000000000))))
theorem sBX12_isSeed : SS (cvoI, .ireturn) miX12_isSeed [] [] [] [(0, 0)] [(0, 0)] 0 [] BX12_isSeed := (t_ret (cv := cvI) (fun _ _ => rfl) (s_of_xI (x_call (ts := [(0, 1), (2, 1), (4, 1)]) kX12_in mokX12_in w7_141 rfl rfl rfl (a_L (ts := [(0, 1), (2, 1)]) 4 (a_L (ts := [(0, 1)]) 2 (a_L (ts := []) 0 a_nil (s_i2l (s_iload_n dX12_isSeed_0 rfl rfl) dX12_isSeed_1) rfl) (s_lconst dX12_isSeed_2 rfl) rfl) (s_ldc2 dX12_isSeed_3 w9_193) rfl) dX12_isSeed_6 w7_140)) dX12_isSeed_9)
noncomputable def DX12_isSeed : Fr → St → Option (Int32 × St) := MZ (fun f => (sI fr0 0 (gI f 0))) BX12_isSeed
theorem kX12_isSeed : SND yX12_isSeed cX12_isSeed 1 (some .boolean) 2 [(0, 0)] cvoI DX12_isSeed := snd_Z (nw := 1) (by decide) rfl rfl (fun _ _ => rfl) sBX12_isSeed
theorem dX12_drawn_0 : decode cX12_drawn 0 = .ok (.aload_n 0, 1) := by decide +kernel
theorem dX12_drawn_1 : decode cX12_drawn 1 = .ok (.iconst 0, 1) := by decide +kernel
theorem dX12_drawn_2 : decode cX12_drawn 2 = .ok (.putfield 122, 3) := by decide +kernel
theorem dX12_drawn_5 : decode cX12_drawn 5 = .ok (.aload_n 0, 1) := by decide +kernel
theorem dX12_drawn_6 : decode cX12_drawn 6 = .ok (.invokevirtual 301, 3) := by decide +kernel
theorem dX12_drawn_9 : decode cX12_drawn 9 = .ok (.ifCond .eq 17, 3) := by decide +kernel
theorem dX12_drawn_12 : decode cX12_drawn 12 = .ok (.iload_n 1, 1) := by decide +kernel
theorem dX12_drawn_13 : decode cX12_drawn 13 = .ok (.invokestatic 489, 3) := by decide +kernel
theorem dX12_drawn_16 : decode cX12_drawn 16 = .ok (.ifCond .eq 10, 3) := by decide +kernel
theorem dX12_drawn_19 : decode cX12_drawn 19 = .ok (.iload_n 2, 1) := by decide +kernel
theorem dX12_drawn_20 : decode cX12_drawn 20 = .ok (.invokestatic 369, 3) := by decide +kernel
theorem dX12_drawn_23 : decode cX12_drawn 23 = .ok (.ifCond .ne 6, 3) := by decide +kernel
theorem dX12_drawn_26 : decode cX12_drawn 26 = .ok (.bipush (-2), 2) := by decide +kernel
theorem dX12_drawn_28 : decode cX12_drawn 28 = .ok (.ireturn, 1) := by decide +kernel
theorem dX12_drawn_29 : decode cX12_drawn 29 = .ok (.aload_n 0, 1) := by decide +kernel
theorem dX12_drawn_30 : decode cX12_drawn 30 = .ok (.iload_n 1, 1) := by decide +kernel
theorem dX12_drawn_31 : decode cX12_drawn 31 = .ok (.i2l, 1) := by decide +kernel
theorem dX12_drawn_32 : decode cX12_drawn 32 = .ok (.invokevirtual 492, 3) := by decide +kernel
theorem dX12_drawn_35 : decode cX12_drawn 35 = .ok (.iconst 0, 1) := by decide +kernel
theorem dX12_drawn_36 : decode cX12_drawn 36 = .ok (.istore_n 3, 1) := by decide +kernel
theorem dX12_drawn_37 : decode cX12_drawn 37 = .ok (.iconst 0, 1) := by decide +kernel
theorem dX12_drawn_38 : decode cX12_drawn 38 = .ok (.istore 4, 2) := by decide +kernel
theorem dX12_drawn_40 : decode cX12_drawn 40 = .ok (.iload 4, 2) := by decide +kernel
theorem dX12_drawn_42 : decode cX12_drawn 42 = .ok (.aload_n 0, 1) := by decide +kernel
theorem dX12_drawn_43 : decode cX12_drawn 43 = .ok (.invokevirtual 298, 3) := by decide +kernel
theorem dX12_drawn_46 : decode cX12_drawn 46 = .ok (.if_icmp .ge 29, 3) := by decide +kernel
theorem dX12_drawn_49 : decode cX12_drawn 49 = .ok (.iload_n 3, 1) := by decide +kernel
theorem dX12_drawn_50 : decode cX12_drawn 50 = .ok (.aload_n 0, 1) := by decide +kernel
theorem dX12_drawn_51 : decode cX12_drawn 51 = .ok (.getfield 77, 3) := by decide +kernel
theorem dX12_drawn_54 : decode cX12_drawn 54 = .ok (.iconst 3, 1) := by decide +kernel
theorem dX12_drawn_55 : decode cX12_drawn 55 = .ok (.aload_n 0, 1) := by decide +kernel
theorem dX12_drawn_56 : decode cX12_drawn 56 = .ok (.invokevirtual 304, 3) := by decide +kernel
theorem dX12_drawn_59 : decode cX12_drawn 59 = .ok (.imul, 1) := by decide +kernel
theorem dX12_drawn_60 : decode cX12_drawn 60 = .ok (.iload 4, 2) := by decide +kernel
theorem dX12_drawn_62 : decode cX12_drawn 62 = .ok (.iadd, 1) := by decide +kernel
theorem dX12_drawn_63 : decode cX12_drawn 63 = .ok (.iaload, 1) := by decide +kernel
theorem dX12_drawn_64 : decode cX12_drawn 64 = .ok (.invokestatic 394, 3) := by decide +kernel
theorem dX12_drawn_67 : decode cX12_drawn 67 = .ok (.iadd, 1) := by decide +kernel
theorem dX12_drawn_68 : decode cX12_drawn 68 = .ok (.istore_n 3, 1) := by decide +kernel
theorem dX12_drawn_69 : decode cX12_drawn 69 = .ok (.iinc 4 1, 3) := by decide +kernel
theorem dX12_drawn_72 : decode cX12_drawn 72 = .ok (.goto (-32), 3) := by decide +kernel
theorem dX12_drawn_75 : decode cX12_drawn 75 = .ok (.iload_n 2, 1) := by decide +kernel
theorem dX12_drawn_76 : decode cX12_drawn 76 = .ok (.ifCond .ne 10, 3) := by decide +kernel
theorem dX12_drawn_79 : decode cX12_drawn 79 = .ok (.aload_n 0, 1) := by decide +kernel
theorem dX12_drawn_80 : decode cX12_drawn 80 = .ok (.getfield 313, 3) := by decide +kernel
theorem dX12_drawn_83 : decode cX12_drawn 83 = .ok (.goto 4, 3) := by decide +kernel
theorem dX12_drawn_86 : decode cX12_drawn 86 = .ok (.iload_n 3, 1) := by decide +kernel
theorem dX12_drawn_87 : decode cX12_drawn 87 = .ok (.ireturn, 1) := by decide +kernel
theorem mokX12_drawn : MOK yX12_drawn cX12_drawn 5 (some .int) 2 := ⟨w9_189, w1_13, ⟨by decide, by decide⟩, by decide +kernel, by decide⟩
abbrev miX12_drawn : MI := (yX12_drawn.cls, cX12_drawn, 5, 6, false)
noncomputable def LX12_drawn_1 : Sm Int32 := dLoop (fun f => (sI (sI (sI (sI (sR fr0 0 (gR f 0)) 1 (gI f 1)) 2 (gI f 2)) 3 (gI f 3)) 4 (gI f 4))) (dCI r_lt (vI 4) (dCallV 12 DX12_slates (aR aN 0 (vR 0)))) (dSetI 3 (d2 o_iadd (vI 3) (dCall DX12_sizeOf (aI aN 0 (dAI (dGR 12 35 (vR 0)) (d2 o_iadd (d2 o_imul (cI 3) (dCallV 12 DX12_days (aR aN 0 (vR 0)))) (vI 4))))))) (dInc 4 1)
theorem sLX12_drawn_1 {ΓL : Gm} {PB PK : List Nat} : SS (cvoI, .ireturn) miX12_drawn ΓL PB PK [(0, 2), (1, 0), (2, 0), (3, 0), (4, 0)] [(0, 2), (1, 0), (2, 0), (3, 0), (4, 0)] 40 [75] LX12_drawn_1 := t_loop (pT := 49) (pF := 75) (pu := 69) (PB' := []) (PK' := []) (XB := [69]) (XU := [72]) (fun _ _ => rfl) rfl (c_lt_F (pF := 75) (s_iload dX12_drawn_40 rfl) (s_of_xI (x_callV (ts := [(0, 2)]) ck12 rfl kX12_slates mokX12_slates w8_89 ps5_5 rfl rfl rfl rfl (a_R (ts := []) 0 a_nil (s_aload_n dX12_drawn_42 rfl rfl) rfl) dX12_drawn_43 w8_87)) dX12_drawn_46 rfl) (t_istore_n (s_iadd (s_iload_n dX12_drawn_49 rfl rfl) (s_of_xI (x_call (ts := [(0, 0)]) kX12_sizeOf mokX12_sizeOf w9_11 rfl rfl rfl (a_I (ts := []) 0 a_nil (s_dAI (s_getR ck12 35 (by decide) rfl (s_aload_n dX12_drawn_50 rfl rfl) dX12_drawn_51 w7_0) (s_iadd (s_imul (s_iconst dX12_drawn_54 rfl) (s_of_xI (x_callV (ts := [(0, 2)]) ck12 rfl kX12_days mokX12_days w8_136 ps5_12 rfl rfl rfl rfl (a_R (ts := []) 0 a_nil (s_aload_n dX12_drawn_55 rfl rfl) rfl) dX12_drawn_56 w8_134)) dX12_drawn_59) (s_iload dX12_drawn_60 rfl) dX12_drawn_62) dX12_drawn_63) rfl) dX12_drawn_64 w9_10)) dX12_drawn_67) dX12_drawn_68 rfl rfl rfl) (t_iinc dX12_drawn_69 rfl rfl rfl rfl) (lda_cons (ld_in rfl) lda_nil) lda_nil (lda_cons (ld_goto (y := 40) dX12_drawn_72 rfl (ld_in rfl)) lda_nil) (ld_in rfl) lda_nil
noncomputable def BX12_drawn : Sm Int32 := (dSeq (dP (fI 12 0) (vR 0) (cI 0)) (dSeq (dIf (dOr (dOr (dNot (dCZ q_ne (dCallV 12 DX12_isPort (aR aN 0 (vR 0))))) (dNot (dCZ q_ne (dCall DX12_isSeed (aI aN 0 (vI 1)))))) (dNot (dCZ q_ne (dCall DX12_isHalf (aI aN 0 (vI 2)))))) (dRet (cI (-2))) dSkip) (dSeq (dDo (dCallV 12 DX12_draws (aL (aR aN 0 (vR 0)) 1 (d1 o_i2l (vI 1))))) (dSeq (dSetI 3 (cI 0)) (dSeq (dSeq (dSetI 4 (cI 0)) LX12_drawn_1) (dRet (dT (dCZ q_eq (vI 2)) (dGI 12 28 (vR 0)) (vI 3))))))))
theorem sBX12_drawn : SS (cvoI, .ireturn) miX12_drawn [] [] [] [(0, 2), (1, 0), (2, 0)] [(0, 2), (1, 0), (2, 0)] 0 [] BX12_drawn := (t_sq (p1 := 5) (Γ' := [(0, 2), (1, 0), (2, 0)]) (t_pI ck12 0 (by decide) rfl (Or.inl rfl) (s_aload_n dX12_drawn_0 rfl rfl) (s_iconst dX12_drawn_1 rfl) dX12_drawn_2 w6_205 rfl) (t_sq (p1 := 29) (Γ' := [(0, 2), (1, 0), (2, 0)]) (t_if (pT := 26) (pF := 29) (X := [29]) (XA := []) (XB := [29]) (c_or (p1 := 19) (pT := 26) (pF := 29) (c_or (p1 := 12) (pT := 26) (pF := 19) (c_not (pT := 26) (pF := 12) (c_ne_ZF (pF := 26) (s_of_xI (x_callV (ts := [(0, 2)]) ck12 rfl kX12_isPort mokX12_isPort w8_132 ps5_11 rfl rfl rfl rfl (a_R (ts := []) 0 a_nil (s_aload_n dX12_drawn_5 rfl rfl) rfl) dX12_drawn_6 w8_130)) dX12_drawn_9 rfl)) (c_not (pT := 26) (pF := 19) (c_ne_ZF (pF := 26) (s_of_xI (x_call (ts := [(0, 0)]) kX12_isSeed mokX12_isSeed w9_191 rfl rfl rfl (a_I (ts := []) 0 a_nil (s_iload_n dX12_drawn_12 rfl rfl) rfl) dX12_drawn_13 w9_190)) dX12_drawn_16 rfl))) (c_not (pT := 26) (pF := 29) (c_ne_ZJ (pT := 29) (s_of_xI (x_call (ts := [(0, 0)]) kX12_isHalf mokX12_isHalf w8_77 rfl rfl rfl (a_I (ts := []) 0 a_nil (s_iload_n dX12_drawn_19 rfl rfl) rfl) dX12_drawn_20 w8_76)) dX12_drawn_23 rfl))) (t_ret (cv := cvI) (fun _ _ => rfl) (s_bipush dX12_drawn_26 rfl) dX12_drawn_28) (t_skip (ld_in rfl) rfl) lda_nil (lda_cons (ld_in rfl) lda_nil)) (t_sq (p1 := 35) (Γ' := [(0, 2), (1, 0), (2, 0)]) (t_do (x_callV (ts := [(0, 2), (1, 1)]) ck12 rfl kX12_draws mokX12_draws w9_196 ps7_10 rfl rfl rfl rfl (a_L (ts := [(0, 2)]) 1 (a_R (ts := []) 0 a_nil (s_aload_n dX12_drawn_29 rfl rfl) rfl) (s_i2l (s_iload_n dX12_drawn_30 rfl rfl) dX12_drawn_31) rfl) dX12_drawn_32 w9_194) rfl) (t_sq (p1 := 37) (Γ' := [(0, 2), (1, 0), (2, 0), (3, 0)]) (t_istore_n (s_iconst dX12_drawn_35 rfl) dX12_drawn_36 rfl rfl rfl) (t_sq (p1 := 75) (Γ' := [(0, 2), (1, 0), (2, 0), (3, 0)]) (t_sq (p1 := 40) (Γ' := [(0, 2), (1, 0), (2, 0), (3, 0), (4, 0)]) (t_istore (s_iconst dX12_drawn_37 rfl) dX12_drawn_38 rfl rfl) (tn_to (Γ' := [(0, 2), (1, 0), (2, 0), (3, 0), (4, 0)]) (XA := [75]) sLX12_drawn_1 (lda_cons (ld_in rfl) lda_nil) rfl)) (t_ret (cv := cvI) (fun _ _ => rfl) (s_T (pT := 79) (pF := 86) (p1 := 83) (pe := 87) (c_eq_ZF (pF := 86) (s_iload_n dX12_drawn_75 rfl rfl) dX12_drawn_76 rfl) (s_getI ck12 28 (by decide) rfl (s_aload_n dX12_drawn_79 rfl rfl) dX12_drawn_80 w6_233) (s_iload_n dX12_drawn_86 rfl rfl) (ld_goto (y := 87) dX12_drawn_83 rfl (ld_in rfl))) dX12_drawn_87))))))
noncomputable def DX12_drawn : Fr → St → Option (Int32 × St) := M1 (fun f => (sI (sI (sR fr0 0 (gR f 0)) 1 (gI f 1)) 2 (gI f 2))) BX12_drawn
theorem kX12_drawn : SND yX12_drawn cX12_drawn 5 (some .int) 6 [(0, 2), (1, 0), (2, 0)] cvoI DX12_drawn := snd_I (nw := 3) (by decide) rfl rfl (fun _ _ => rfl) sBX12_drawn
theorem dX12_luck_0 : decode cX12_luck 0 = .ok (.aload_n 0, 1) := by decide +kernel
theorem dX12_luck_1 : decode cX12_luck 1 = .ok (.iconst 0, 1) := by decide +kernel
theorem dX12_luck_2 : decode cX12_luck 2 = .ok (.putfield 122, 3) := by decide +kernel
theorem dX12_luck_5 : decode cX12_luck 5 = .ok (.iload_n 1, 1) := by decide +kernel
theorem dX12_luck_6 : decode cX12_luck 6 = .ok (.invokestatic 489, 3) := by decide +kernel
theorem dX12_luck_9 : decode cX12_luck 9 = .ok (.ifCond .eq 33, 3) := by decide +kernel
theorem dX12_luck_12 : decode cX12_luck 12 = .ok (.iload_n 2, 1) := by decide +kernel
theorem dX12_luck_13 : decode cX12_luck 13 = .ok (.i2l, 1) := by decide +kernel
theorem dX12_luck_14 : decode cX12_luck 14 = .ok (.lconst 1, 1) := by decide +kernel
theorem dX12_luck_15 : decode cX12_luck 15 = .ok (.ldc2_w 495, 3) := by decide +kernel
theorem dX12_luck_18 : decode cX12_luck 18 = .ok (.invokestatic 127, 3) := by decide +kernel
theorem dX12_luck_21 : decode cX12_luck 21 = .ok (.ifCond .eq 21, 3) := by decide +kernel
theorem dX12_luck_24 : decode cX12_luck 24 = .ok (.aload_n 0, 1) := by decide +kernel
theorem dX12_luck_25 : decode cX12_luck 25 = .ok (.iload_n 3, 1) := by decide +kernel
theorem dX12_luck_26 : decode cX12_luck 26 = .ok (.invokevirtual 372, 3) := by decide +kernel
theorem dX12_luck_29 : decode cX12_luck 29 = .ok (.ifCond .eq 13, 3) := by decide +kernel
theorem dX12_luck_32 : decode cX12_luck 32 = .ok (.aload_n 0, 1) := by decide +kernel
theorem dX12_luck_33 : decode cX12_luck 33 = .ok (.iload 4, 2) := by decide +kernel
theorem dX12_luck_35 : decode cX12_luck 35 = .ok (.i2l, 1) := by decide +kernel
theorem dX12_luck_36 : decode cX12_luck 36 = .ok (.invokevirtual 307, 3) := by decide +kernel
theorem dX12_luck_39 : decode cX12_luck 39 = .ok (.ifCond .ne 6, 3) := by decide +kernel
theorem dX12_luck_42 : decode cX12_luck 42 = .ok (.bipush (-2), 2) := by decide +kernel
theorem dX12_luck_44 : decode cX12_luck 44 = .ok (.ireturn, 1) := by decide +kernel
theorem dX12_luck_45 : decode cX12_luck 45 = .ok (.iconst 0, 1) := by decide +kernel
theorem dX12_luck_46 : decode cX12_luck 46 = .ok (.istore 5, 2) := by decide +kernel
theorem dX12_luck_48 : decode cX12_luck 48 = .ok (.iconst 0, 1) := by decide +kernel
theorem dX12_luck_49 : decode cX12_luck 49 = .ok (.istore 6, 2) := by decide +kernel
theorem dX12_luck_51 : decode cX12_luck 51 = .ok (.iload 6, 2) := by decide +kernel
theorem dX12_luck_53 : decode cX12_luck 53 = .ok (.iload_n 2, 1) := by decide +kernel
theorem dX12_luck_54 : decode cX12_luck 54 = .ok (.if_icmp .ge 39, 3) := by decide +kernel
theorem dX12_luck_57 : decode cX12_luck 57 = .ok (.aload_n 0, 1) := by decide +kernel
theorem dX12_luck_58 : decode cX12_luck 58 = .ok (.iload_n 1, 1) := by decide +kernel
theorem dX12_luck_59 : decode cX12_luck 59 = .ok (.i2l, 1) := by decide +kernel
theorem dX12_luck_60 : decode cX12_luck 60 = .ok (.iload 6, 2) := by decide +kernel
theorem dX12_luck_62 : decode cX12_luck 62 = .ok (.i2l, 1) := by decide +kernel
theorem dX12_luck_63 : decode cX12_luck 63 = .ok (.ladd, 1) := by decide +kernel
theorem dX12_luck_64 : decode cX12_luck 64 = .ok (.invokevirtual 492, 3) := by decide +kernel
theorem dX12_luck_67 : decode cX12_luck 67 = .ok (.iload 5, 2) := by decide +kernel
theorem dX12_luck_69 : decode cX12_luck 69 = .ok (.aload_n 0, 1) := by decide +kernel
theorem dX12_luck_70 : decode cX12_luck 70 = .ok (.iload_n 3, 1) := by decide +kernel
theorem dX12_luck_71 : decode cX12_luck 71 = .ok (.iload 4, 2) := by decide +kernel
theorem dX12_luck_73 : decode cX12_luck 73 = .ok (.invokevirtual 397, 3) := by decide +kernel
theorem dX12_luck_76 : decode cX12_luck 76 = .ok (.ifCond .ne 7, 3) := by decide +kernel
theorem dX12_luck_79 : decode cX12_luck 79 = .ok (.iconst 0, 1) := by decide +kernel
theorem dX12_luck_80 : decode cX12_luck 80 = .ok (.goto 4, 3) := by decide +kernel
theorem dX12_luck_83 : decode cX12_luck 83 = .ok (.iconst 1, 1) := by decide +kernel
theorem dX12_luck_84 : decode cX12_luck 84 = .ok (.iadd, 1) := by decide +kernel
theorem dX12_luck_85 : decode cX12_luck 85 = .ok (.istore 5, 2) := by decide +kernel
theorem dX12_luck_87 : decode cX12_luck 87 = .ok (.iinc 6 1, 3) := by decide +kernel
theorem dX12_luck_90 : decode cX12_luck 90 = .ok (.goto (-39), 3) := by decide +kernel
theorem dX12_luck_93 : decode cX12_luck 93 = .ok (.iload 5, 2) := by decide +kernel
theorem dX12_luck_95 : decode cX12_luck 95 = .ok (.ireturn, 1) := by decide +kernel
theorem mokX12_luck : MOK yX12_luck cX12_luck 7 (some .int) 4 := ⟨w9_205, w1_13, ⟨by decide, by decide⟩, by decide +kernel, by decide⟩
abbrev miX12_luck : MI := (yX12_luck.cls, cX12_luck, 7, 6, false)
noncomputable def LX12_luck_1 : Sm Int32 := dLoop (fun f => (sI (sI (sI (sI (sI (sI (sR fr0 0 (gR f 0)) 1 (gI f 1)) 2 (gI f 2)) 3 (gI f 3)) 4 (gI f 4)) 5 (gI f 5)) 6 (gI f 6))) (dCI r_lt (vI 6) (vI 2)) (dSeq (dDo (dCallV 12 DX12_draws (aL (aR aN 0 (vR 0)) 1 (d2 o_ladd (d1 o_i2l (vI 1)) (d1 o_i2l (vI 6)))))) (dSetI 5 (d2 o_iadd (vI 5) (dT (dCZ q_eq (dCallV 12 DX12_knownLast (aI (aI (aR aN 0 (vR 0)) 1 (vI 3)) 2 (vI 4)))) (cI 0) (cI 1))))) (dInc 6 1)
theorem sLX12_luck_1 {ΓL : Gm} {PB PK : List Nat} : SS (cvoI, .ireturn) miX12_luck ΓL PB PK [(0, 2), (1, 0), (2, 0), (3, 0), (4, 0), (5, 0), (6, 0)] [(0, 2), (1, 0), (2, 0), (3, 0), (4, 0), (5, 0), (6, 0)] 51 [93] LX12_luck_1 := t_loop (pT := 57) (pF := 93) (pu := 87) (PB' := []) (PK' := []) (XB := [87]) (XU := [90]) (fun _ _ => rfl) rfl (c_lt_F (pF := 93) (s_iload dX12_luck_51 rfl) (s_iload_n dX12_luck_53 rfl rfl) dX12_luck_54 rfl) (t_sq (p1 := 67) (Γ' := [(0, 2), (1, 0), (2, 0), (3, 0), (4, 0), (5, 0), (6, 0)]) (t_do (x_callV (ts := [(0, 2), (1, 1)]) ck12 rfl kX12_draws mokX12_draws w9_196 ps7_10 rfl rfl rfl rfl (a_L (ts := [(0, 2)]) 1 (a_R (ts := []) 0 a_nil (s_aload_n dX12_luck_57 rfl rfl) rfl) (s_ladd (s_i2l (s_iload_n dX12_luck_58 rfl rfl) dX12_luck_59) (s_i2l (s_iload dX12_luck_60 rfl) dX12_luck_62) dX12_luck_63) rfl) dX12_luck_64 w9_194) rfl) (t_istore (s_iadd (s_iload dX12_luck_67 rfl) (s_T (pT := 79) (pF := 83) (p1 := 80) (pe := 84) (c_eq_ZF (pF := 83) (s_of_xI (x_callV (ts := [(0, 2), (1, 0), (2, 0)]) ck12 rfl kX12_knownLast mokX12_knownLast w9_19 ps6_9 rfl rfl rfl rfl (a_I (ts := [(0, 2), (1, 0)]) 2 (a_I (ts := [(0, 2)]) 1 (a_R (ts := []) 0 a_nil (s_aload_n dX12_luck_69 rfl rfl) rfl) (s_iload_n dX12_luck_70 rfl rfl) rfl) (s_iload dX12_luck_71 rfl) rfl) dX12_luck_73 w9_17)) dX12_luck_76 rfl) (s_iconst dX12_luck_79 rfl) (s_iconst dX12_luck_83 rfl) (ld_goto (y := 84) dX12_luck_80 rfl (ld_in rfl))) dX12_luck_84) dX12_luck_85 rfl rfl)) (t_iinc dX12_luck_87 rfl rfl rfl rfl) (lda_cons (ld_in rfl) lda_nil) lda_nil (lda_cons (ld_goto (y := 51) dX12_luck_90 rfl (ld_in rfl)) lda_nil) (ld_in rfl) lda_nil
noncomputable def BX12_luck : Sm Int32 := (dSeq (dP (fI 12 0) (vR 0) (cI 0)) (dSeq (dIf (dOr (dOr (dOr (dNot (dCZ q_ne (dCall DX12_isSeed (aI aN 0 (vI 1))))) (dNot (dCZ q_ne (dCall DX12_in (aL (aL (aL aN 0 (d1 o_i2l (vI 2))) 2 (cL 1)) 4 (cL 20)))))) (dNot (dCZ q_ne (dCallV 12 DX12_isSlate (aI (aR aN 0 (vR 0)) 1 (vI 3)))))) (dNot (dCZ q_ne (dCallV 12 DX12_isHouse (aL (aR aN 0 (vR 0)) 1 (d1 o_i2l (vI 4))))))) (dRet (cI (-2))) dSkip) (dSeq (dSetI 5 (cI 0)) (dSeq (dSeq (dSetI 6 (cI 0)) LX12_luck_1) (dRet (vI 5))))))
theorem sBX12_luck : SS (cvoI, .ireturn) miX12_luck [] [] [] [(0, 2), (1, 0), (2, 0), (3, 0), (4, 0)] [(0, 2), (1, 0), (2, 0), (3, 0), (4, 0)] 0 [] BX12_luck := (t_sq (p1 := 5) (Γ' := [(0, 2), (1, 0), (2, 0), (3, 0), (4, 0)]) (t_pI ck12 0 (by decide) rfl (Or.inl rfl) (s_aload_n dX12_luck_0 rfl rfl) (s_iconst dX12_luck_1 rfl) dX12_luck_2 w6_205 rfl) (t_sq (p1 := 45) (Γ' := [(0, 2), (1, 0), (2, 0), (3, 0), (4, 0)]) (t_if (pT := 42) (pF := 45) (X := [45]) (XA := []) (XB := [45]) (c_or (p1 := 32) (pT := 42) (pF := 45) (c_or (p1 := 24) (pT := 42) (pF := 32) (c_or (p1 := 12) (pT := 42) (pF := 24) (c_not (pT := 42) (pF := 12) (c_ne_ZF (pF := 42) (s_of_xI (x_call (ts := [(0, 0)]) kX12_isSeed mokX12_isSeed w9_191 rfl rfl rfl (a_I (ts := []) 0 a_nil (s_iload_n dX12_luck_5 rfl rfl) rfl) dX12_luck_6 w9_190)) dX12_luck_9 rfl)) (c_not (pT := 42) (pF := 24) (c_ne_ZF (pF := 42) (s_of_xI (x_call (ts := [(0, 1), (2, 1), (4, 1)]) kX12_in mokX12_in w7_141 rfl rfl rfl (a_L (ts := [(0, 1), (2, 1)]) 4 (a_L (ts := [(0, 1)]) 2 (a_L (ts := []) 0 a_nil (s_i2l (s_iload_n dX12_luck_12 rfl rfl) dX12_luck_13) rfl) (s_lconst dX12_luck_14 rfl) rfl) (s_ldc2 dX12_luck_15 w9_206) rfl) dX12_luck_18 w7_140)) dX12_luck_21 rfl))) (c_not (pT := 42) (pF := 32) (c_ne_ZF (pF := 42) (s_of_xI (x_callV (ts := [(0, 2), (1, 0)]) ck12 rfl kX12_isSlate mokX12_isSlate w8_85 ps5_4 rfl rfl rfl rfl (a_I (ts := [(0, 2)]) 1 (a_R (ts := []) 0 a_nil (s_aload_n dX12_luck_24 rfl rfl) rfl) (s_iload_n dX12_luck_25 rfl rfl) rfl) dX12_luck_26 w8_83)) dX12_luck_29 rfl))) (c_not (pT := 42) (pF := 45) (c_ne_ZJ (pT := 45) (s_of_xI (x_callV (ts := [(0, 2), (1, 1)]) ck12 rfl kX12_isHouse mokX12_isHouse w8_58 ps5_0 rfl rfl rfl rfl (a_L (ts := [(0, 2)]) 1 (a_R (ts := []) 0 a_nil (s_aload_n dX12_luck_32 rfl rfl) rfl) (s_i2l (s_iload dX12_luck_33 rfl) dX12_luck_35) rfl) dX12_luck_36 w8_56)) dX12_luck_39 rfl))) (t_ret (cv := cvI) (fun _ _ => rfl) (s_bipush dX12_luck_42 rfl) dX12_luck_44) (t_skip (ld_in rfl) rfl) lda_nil (lda_cons (ld_in rfl) lda_nil)) (t_sq (p1 := 48) (Γ' := [(0, 2), (1, 0), (2, 0), (3, 0), (4, 0), (5, 0)]) (t_istore (s_iconst dX12_luck_45 rfl) dX12_luck_46 rfl rfl) (t_sq (p1 := 93) (Γ' := [(0, 2), (1, 0), (2, 0), (3, 0), (4, 0), (5, 0)]) (t_sq (p1 := 51) (Γ' := [(0, 2), (1, 0), (2, 0), (3, 0), (4, 0), (5, 0), (6, 0)]) (t_istore (s_iconst dX12_luck_48 rfl) dX12_luck_49 rfl rfl) (tn_to (Γ' := [(0, 2), (1, 0), (2, 0), (3, 0), (4, 0), (5, 0), (6, 0)]) (XA := [93]) sLX12_luck_1 (lda_cons (ld_in rfl) lda_nil) rfl)) (t_ret (cv := cvI) (fun _ _ => rfl) (s_iload dX12_luck_93 rfl) dX12_luck_95)))))
noncomputable def DX12_luck : Fr → St → Option (Int32 × St) := M1 (fun f => (sI (sI (sI (sI (sR fr0 0 (gR f 0)) 1 (gI f 1)) 2 (gI f 2)) 3 (gI f 3)) 4 (gI f 4))) BX12_luck
theorem kX12_luck : SND yX12_luck cX12_luck 7 (some .int) 6 [(0, 2), (1, 0), (2, 0), (3, 0), (4, 0)] cvoI DX12_luck := snd_I (nw := 5) (by decide) rfl rfl (fun _ _ => rfl) sBX12_luck
theorem dX12_adds_0 : decode cX12_adds 0 = .ok (.iconst 4, 1) := by decide +kernel
theorem dX12_adds_1 : decode cX12_adds 1 = .ok (.aload_n 0, 1) := by decide +kernel
theorem dX12_adds_2 : decode cX12_adds 2 = .ok (.getfield 34, 3) := by decide +kernel
theorem dX12_adds_5 : decode cX12_adds 5 = .ok (.bipush 8, 2) := by decide +kernel
theorem dX12_adds_7 : decode cX12_adds 7 = .ok (.iaload, 1) := by decide +kernel
theorem dX12_adds_8 : decode cX12_adds 8 = .ok (.imul, 1) := by decide +kernel
theorem dX12_adds_9 : decode cX12_adds 9 = .ok (.istore 5, 2) := by decide +kernel
theorem dX12_adds_11 : decode cX12_adds 11 = .ok (.aload_n 0, 1) := by decide +kernel
theorem dX12_adds_12 : decode cX12_adds 12 = .ok (.getfield 58, 3) := by decide +kernel
theorem dX12_adds_15 : decode cX12_adds 15 = .ok (.iload 5, 2) := by decide +kernel
theorem dX12_adds_17 : decode cX12_adds 17 = .ok (.iload_n 1, 1) := by decide +kernel
theorem dX12_adds_18 : decode cX12_adds 18 = .ok (.iastore, 1) := by decide +kernel
theorem dX12_adds_19 : decode cX12_adds 19 = .ok (.aload_n 0, 1) := by decide +kernel
theorem dX12_adds_20 : decode cX12_adds 20 = .ok (.getfield 58, 3) := by decide +kernel
theorem dX12_adds_23 : decode cX12_adds 23 = .ok (.iload 5, 2) := by decide +kernel
theorem dX12_adds_25 : decode cX12_adds 25 = .ok (.iconst 1, 1) := by decide +kernel
theorem dX12_adds_26 : decode cX12_adds 26 = .ok (.iadd, 1) := by decide +kernel
theorem dX12_adds_27 : decode cX12_adds 27 = .ok (.iload_n 2, 1) := by decide +kernel
theorem dX12_adds_28 : decode cX12_adds 28 = .ok (.iastore, 1) := by decide +kernel
theorem dX12_adds_29 : decode cX12_adds 29 = .ok (.aload_n 0, 1) := by decide +kernel
theorem dX12_adds_30 : decode cX12_adds 30 = .ok (.getfield 58, 3) := by decide +kernel
theorem dX12_adds_33 : decode cX12_adds 33 = .ok (.iload 5, 2) := by decide +kernel
theorem dX12_adds_35 : decode cX12_adds 35 = .ok (.iconst 2, 1) := by decide +kernel
theorem dX12_adds_36 : decode cX12_adds 36 = .ok (.iadd, 1) := by decide +kernel
theorem dX12_adds_37 : decode cX12_adds 37 = .ok (.iload_n 3, 1) := by decide +kernel
theorem dX12_adds_38 : decode cX12_adds 38 = .ok (.iastore, 1) := by decide +kernel
theorem dX12_adds_39 : decode cX12_adds 39 = .ok (.aload_n 0, 1) := by decide +kernel
theorem dX12_adds_40 : decode cX12_adds 40 = .ok (.getfield 58, 3) := by decide +kernel
theorem dX12_adds_43 : decode cX12_adds 43 = .ok (.iload 5, 2) := by decide +kernel
theorem dX12_adds_45 : decode cX12_adds 45 = .ok (.iconst 3, 1) := by decide +kernel
theorem dX12_adds_46 : decode cX12_adds 46 = .ok (.iadd, 1) := by decide +kernel
theorem dX12_adds_47 : decode cX12_adds 47 = .ok (.iload 4, 2) := by decide +kernel
theorem dX12_adds_49 : decode cX12_adds 49 = .ok (.iastore, 1) := by decide +kernel
theorem dX12_adds_50 : decode cX12_adds 50 = .ok (.aload_n 0, 1) := by decide +kernel
theorem dX12_adds_51 : decode cX12_adds 51 = .ok (.getfield 34, 3) := by decide +kernel
theorem dX12_adds_54 : decode cX12_adds 54 = .ok (.bipush 8, 2) := by decide +kernel
theorem dX12_adds_56 : decode cX12_adds 56 = .ok (.dup2, 1) := by decide +kernel
theorem dX12_adds_57 : decode cX12_adds 57 = .ok (.iaload, 1) := by decide +kernel
theorem dX12_adds_58 : decode cX12_adds 58 = .ok (.iconst 1, 1) := by decide +kernel
theorem dX12_adds_59 : decode cX12_adds 59 = .ok (.iadd, 1) := by decide +kernel
theorem dX12_adds_60 : decode cX12_adds 60 = .ok (.iastore, 1) := by decide +kernel
theorem dX12_adds_61 : decode cX12_adds 61 = .ok (.return_, 1) := by decide +kernel
theorem mokX12_adds : MOK yX12_adds cX12_adds 6 none 4 := ⟨w9_214, w1_13, ⟨by decide, by decide⟩, by decide +kernel, by decide⟩
abbrev miX12_adds : MI := (yX12_adds.cls, cX12_adds, 6, 1, false)
noncomputable def BX12_adds : Sm Unit := (dSeq (dSetI 5 (d2 o_imul (cI 4) (dAI (dGR 12 17 (vR 0)) (cI 8)))) (dSeq (d3 (stI 13 idI) (dGR 12 25 (vR 0)) (vI 5) (vI 1)) (dSeq (d3 (stI 13 idI) (dGR 12 25 (vR 0)) (d2 o_iadd (vI 5) (cI 1)) (vI 2)) (dSeq (d3 (stI 13 idI) (dGR 12 25 (vR 0)) (d2 o_iadd (vI 5) (cI 2)) (vI 3)) (dSeq (d3 (stI 13 idI) (dGR 12 25 (vR 0)) (d2 o_iadd (vI 5) (cI 3)) (vI 4)) (dSeq (dUA o_iadd (dGR 12 17 (vR 0)) (cI 8) (cI 1)) dRet0))))))
theorem sBX12_adds : SS (cvoV, .return_) miX12_adds [] [] [] [(0, 2), (1, 0), (2, 0), (3, 0), (4, 0)] [(0, 2), (1, 0), (2, 0), (3, 0), (4, 0)] 0 [] BX12_adds := (t_sq (p1 := 11) (Γ' := [(0, 2), (1, 0), (2, 0), (3, 0), (4, 0), (5, 0)]) (t_istore (s_imul (s_iconst dX12_adds_0 rfl) (s_dAI (s_getR ck12 17 (by decide) rfl (s_aload_n dX12_adds_1 rfl rfl) dX12_adds_2 w6_222) (s_bipush dX12_adds_5 rfl) dX12_adds_7) dX12_adds_8) dX12_adds_9 rfl rfl) (t_sq (p1 := 19) (Γ' := [(0, 2), (1, 0), (2, 0), (3, 0), (4, 0), (5, 0)]) (t_stI (s_getR ck12 25 (by decide) rfl (s_aload_n dX12_adds_11 rfl rfl) dX12_adds_12 w6_230) (s_iload dX12_adds_15 rfl) (s_iload_n dX12_adds_17 rfl rfl) dX12_adds_18 rfl) (t_sq (p1 := 29) (Γ' := [(0, 2), (1, 0), (2, 0), (3, 0), (4, 0), (5, 0)]) (t_stI (s_getR ck12 25 (by decide) rfl (s_aload_n dX12_adds_19 rfl rfl) dX12_adds_20 w6_230) (s_iadd (s_iload dX12_adds_23 rfl) (s_iconst dX12_adds_25 rfl) dX12_adds_26) (s_iload_n dX12_adds_27 rfl rfl) dX12_adds_28 rfl) (t_sq (p1 := 39) (Γ' := [(0, 2), (1, 0), (2, 0), (3, 0), (4, 0), (5, 0)]) (t_stI (s_getR ck12 25 (by decide) rfl (s_aload_n dX12_adds_29 rfl rfl) dX12_adds_30 w6_230) (s_iadd (s_iload dX12_adds_33 rfl) (s_iconst dX12_adds_35 rfl) dX12_adds_36) (s_iload_n dX12_adds_37 rfl rfl) dX12_adds_38 rfl) (t_sq (p1 := 50) (Γ' := [(0, 2), (1, 0), (2, 0), (3, 0), (4, 0), (5, 0)]) (t_stI (s_getR ck12 25 (by decide) rfl (s_aload_n dX12_adds_39 rfl rfl) dX12_adds_40 w6_230) (s_iadd (s_iload dX12_adds_43 rfl) (s_iconst dX12_adds_45 rfl) dX12_adds_46) (s_iload dX12_adds_47 rfl) dX12_adds_49 rfl) (t_sq (p1 := 61) (Γ' := [(0, 2), (1, 0), (2, 0), (3, 0), (4, 0), (5, 0)]) (t_UA (s_getR ck12 17 (by decide) rfl (s_aload_n dX12_adds_50 rfl rfl) dX12_adds_51 w6_222) (s_bipush dX12_adds_54 rfl) dX12_adds_56 dX12_adds_57 (s_iconst dX12_adds_58 rfl) (fun _ _ _ _ => rulI fun a b K => lv_iadd a b dX12_adds_59 K) dX12_adds_60 rfl) (t_ret0 (fun _ _ => rfl) dX12_adds_61)))))))
noncomputable def DX12_adds : Fr → St → Option (Unit × St) := M1 (fun f => (sI (sI (sI (sI (sR fr0 0 (gR f 0)) 1 (gI f 1)) 2 (gI f 2)) 3 (gI f 3)) 4 (gI f 4))) BX12_adds
theorem kX12_adds : SND yX12_adds cX12_adds 6 none 1 [(0, 2), (1, 0), (2, 0), (3, 0), (4, 0)] cvoV DX12_adds := snd_V (nw := 5) (by decide) (fun z => by cases z) rfl rfl (fun _ _ => rfl) sBX12_adds
theorem dX12_carry_0 : decode cX12_carry 0 = .ok (.aload_n 0, 1) := by decide +kernel
theorem dX12_carry_1 : decode cX12_carry 1 = .ok (.iconst 0, 1) := by decide +kernel
theorem dX12_carry_2 : decode cX12_carry 2 = .ok (.putfield 122, 3) := by decide +kernel
theorem dX12_carry_5 : decode cX12_carry 5 = .ok (.aload_n 0, 1) := by decide +kernel
theorem dX12_carry_6 : decode cX12_carry 6 = .ok (.iload_n 1, 1) := by decide +kernel
theorem dX12_carry_7 : decode cX12_carry 7 = .ok (.iload_n 2, 1) := by decide +kernel
theorem dX12_carry_8 : decode cX12_carry 8 = .ok (.iload_n 3, 1) := by decide +kernel
theorem dX12_carry_9 : decode cX12_carry 9 = .ok (.invokevirtual 409, 3) := by decide +kernel
theorem dX12_carry_12 : decode cX12_carry 12 = .ok (.ifCond .eq 12, 3) := by decide +kernel
theorem dX12_carry_15 : decode cX12_carry 15 = .ok (.aload_n 0, 1) := by decide +kernel
theorem dX12_carry_16 : decode cX12_carry 16 = .ok (.iload 4, 2) := by decide +kernel
theorem dX12_carry_18 : decode cX12_carry 18 = .ok (.invokevirtual 391, 3) := by decide +kernel
theorem dX12_carry_21 : decode cX12_carry 21 = .ok (.ifCond .ne 6, 3) := by decide +kernel
theorem dX12_carry_24 : decode cX12_carry 24 = .ok (.bipush (-2), 2) := by decide +kernel
theorem dX12_carry_26 : decode cX12_carry 26 = .ok (.ireturn, 1) := by decide +kernel
theorem dX12_carry_27 : decode cX12_carry 27 = .ok (.aload_n 0, 1) := by decide +kernel
theorem dX12_carry_28 : decode cX12_carry 28 = .ok (.getfield 34, 3) := by decide +kernel
theorem dX12_carry_31 : decode cX12_carry 31 = .ok (.bipush 8, 2) := by decide +kernel
theorem dX12_carry_33 : decode cX12_carry 33 = .ok (.iaload, 1) := by decide +kernel
theorem dX12_carry_34 : decode cX12_carry 34 = .ok (.bipush 20, 2) := by decide +kernel
theorem dX12_carry_36 : decode cX12_carry 36 = .ok (.if_icmp .ne 6, 3) := by decide +kernel
theorem dX12_carry_39 : decode cX12_carry 39 = .ok (.bipush (-5), 2) := by decide +kernel
theorem dX12_carry_41 : decode cX12_carry 41 = .ok (.ireturn, 1) := by decide +kernel
theorem dX12_carry_42 : decode cX12_carry 42 = .ok (.aload_n 0, 1) := by decide +kernel
theorem dX12_carry_43 : decode cX12_carry 43 = .ok (.iload_n 1, 1) := by decide +kernel
theorem dX12_carry_44 : decode cX12_carry 44 = .ok (.iload_n 2, 1) := by decide +kernel
theorem dX12_carry_45 : decode cX12_carry 45 = .ok (.iload_n 3, 1) := by decide +kernel
theorem dX12_carry_46 : decode cX12_carry 46 = .ok (.iload 4, 2) := by decide +kernel
theorem dX12_carry_48 : decode cX12_carry 48 = .ok (.invokevirtual 497, 3) := by decide +kernel
theorem dX12_carry_51 : decode cX12_carry 51 = .ok (.aload_n 0, 1) := by decide +kernel
theorem dX12_carry_52 : decode cX12_carry 52 = .ok (.invokevirtual 382, 3) := by decide +kernel
theorem dX12_carry_55 : decode cX12_carry 55 = .ok (.aload_n 0, 1) := by decide +kernel
theorem dX12_carry_56 : decode cX12_carry 56 = .ok (.getfield 98, 3) := by decide +kernel
theorem dX12_carry_59 : decode cX12_carry 59 = .ok (.aload_n 0, 1) := by decide +kernel
theorem dX12_carry_60 : decode cX12_carry 60 = .ok (.invokevirtual 348, 3) := by decide +kernel
theorem dX12_carry_63 : decode cX12_carry 63 = .ok (.iconst 1, 1) := by decide +kernel
theorem dX12_carry_64 : decode cX12_carry 64 = .ok (.isub, 1) := by decide +kernel
theorem dX12_carry_65 : decode cX12_carry 65 = .ok (.iaload, 1) := by decide +kernel
theorem dX12_carry_66 : decode cX12_carry 66 = .ok (.ifCond .ne 7, 3) := by decide +kernel
theorem dX12_carry_69 : decode cX12_carry 69 = .ok (.iconst 1, 1) := by decide +kernel
theorem dX12_carry_70 : decode cX12_carry 70 = .ok (.goto 4, 3) := by decide +kernel
theorem dX12_carry_73 : decode cX12_carry 73 = .ok (.iconst 0, 1) := by decide +kernel
theorem dX12_carry_74 : decode cX12_carry 74 = .ok (.ireturn, 1) := by decide +kernel
theorem mokX12_carry : MOK yX12_carry cX12_carry 5 (some .int) 4 := ⟨w9_210, w1_13, ⟨by decide, by decide⟩, by decide +kernel, by decide⟩
abbrev miX12_carry : MI := (yX12_carry.cls, cX12_carry, 5, 6, false)
noncomputable def BX12_carry : Sm Int32 := (dSeq (dP (fI 12 0) (vR 0) (cI 0)) (dSeq (dIf (dOr (dNot (dCZ q_ne (dCallV 12 DX12_areThree (aI (aI (aI (aR aN 0 (vR 0)) 1 (vI 1)) 2 (vI 2)) 3 (vI 3))))) (dNot (dCZ q_ne (dCallV 12 DX12_isAhead (aI (aR aN 0 (vR 0)) 1 (vI 4)))))) (dRet (cI (-2))) dSkip) (dSeq (dIf (dCI r_eq (dAI (dGR 12 17 (vR 0)) (cI 8)) (cI 20)) (dRet (cI (-5))) dSkip) (dSeq (dDo (dCallV 12 DX12_adds (aI (aI (aI (aI (aR aN 0 (vR 0)) 1 (vI 1)) 2 (vI 2)) 3 (vI 3)) 4 (vI 4)))) (dSeq (dDo (dCallV 12 DX12_laysNow (aR aN 0 (vR 0)))) (dRet (dT (dCZ q_eq (dAI (dGR 12 42 (vR 0)) (d2 o_isub (dCallV 12 DX12_carryMany (aR aN 0 (vR 0))) (cI 1)))) (cI 1) (cI 0))))))))
theorem sBX12_carry : SS (cvoI, .ireturn) miX12_carry [] [] [] [(0, 2), (1, 0), (2, 0), (3, 0), (4, 0)] [(0, 2), (1, 0), (2, 0), (3, 0), (4, 0)] 0 [] BX12_carry := (t_sq (p1 := 5) (Γ' := [(0, 2), (1, 0), (2, 0), (3, 0), (4, 0)]) (t_pI ck12 0 (by decide) rfl (Or.inl rfl) (s_aload_n dX12_carry_0 rfl rfl) (s_iconst dX12_carry_1 rfl) dX12_carry_2 w6_205 rfl) (t_sq (p1 := 27) (Γ' := [(0, 2), (1, 0), (2, 0), (3, 0), (4, 0)]) (t_if (pT := 24) (pF := 27) (X := [27]) (XA := []) (XB := [27]) (c_or (p1 := 15) (pT := 24) (pF := 27) (c_not (pT := 24) (pF := 15) (c_ne_ZF (pF := 24) (s_of_xI (x_callV (ts := [(0, 2), (1, 0), (2, 0), (3, 0)]) ck12 rfl kX12_areThree mokX12_areThree w9_31 ps6_10 rfl rfl rfl rfl (a_I (ts := [(0, 2), (1, 0), (2, 0)]) 3 (a_I (ts := [(0, 2), (1, 0)]) 2 (a_I (ts := [(0, 2)]) 1 (a_R (ts := []) 0 a_nil (s_aload_n dX12_carry_5 rfl rfl) rfl) (s_iload_n dX12_carry_6 rfl rfl) rfl) (s_iload_n dX12_carry_7 rfl rfl) rfl) (s_iload_n dX12_carry_8 rfl rfl) rfl) dX12_carry_9 w9_29)) dX12_carry_12 rfl)) (c_not (pT := 24) (pF := 27) (c_ne_ZJ (pT := 27) (s_of_xI (x_callV (ts := [(0, 2), (1, 0)]) ck12 rfl kX12_isAhead mokX12_isAhead w8_232 ps6_8 rfl rfl rfl rfl (a_I (ts := [(0, 2)]) 1 (a_R (ts := []) 0 a_nil (s_aload_n dX12_carry_15 rfl rfl) rfl) (s_iload dX12_carry_16 rfl) rfl) dX12_carry_18 w8_230)) dX12_carry_21 rfl))) (t_ret (cv := cvI) (fun _ _ => rfl) (s_bipush dX12_carry_24 rfl) dX12_carry_26) (t_skip (ld_in rfl) rfl) lda_nil (lda_cons (ld_in rfl) lda_nil)) (t_sq (p1 := 42) (Γ' := [(0, 2), (1, 0), (2, 0), (3, 0), (4, 0)]) (t_if (pT := 39) (pF := 42) (X := [42]) (XA := []) (XB := [42]) (c_eq_F (pF := 42) (s_dAI (s_getR ck12 17 (by decide) rfl (s_aload_n dX12_carry_27 rfl rfl) dX12_carry_28 w6_222) (s_bipush dX12_carry_31 rfl) dX12_carry_33) (s_bipush dX12_carry_34 rfl) dX12_carry_36 rfl) (t_ret (cv := cvI) (fun _ _ => rfl) (s_bipush dX12_carry_39 rfl) dX12_carry_41) (t_skip (ld_in rfl) rfl) lda_nil (lda_cons (ld_in rfl) lda_nil)) (t_sq (p1 := 51) (Γ' := [(0, 2), (1, 0), (2, 0), (3, 0), (4, 0)]) (t_do (x_callV (ts := [(0, 2), (1, 0), (2, 0), (3, 0), (4, 0)]) ck12 rfl kX12_adds mokX12_adds w9_213 ps7_11 rfl rfl rfl rfl (a_I (ts := [(0, 2), (1, 0), (2, 0), (3, 0)]) 4 (a_I (ts := [(0, 2), (1, 0), (2, 0)]) 3 (a_I (ts := [(0, 2), (1, 0)]) 2 (a_I (ts := [(0, 2)]) 1 (a_R (ts := []) 0 a_nil (s_aload_n dX12_carry_42 rfl rfl) rfl) (s_iload_n dX12_carry_43 rfl rfl) rfl) (s_iload_n dX12_carry_44 rfl rfl) rfl) (s_iload_n dX12_carry_45 rfl rfl) rfl) (s_iload dX12_carry_46 rfl) rfl) dX12_carry_48 w9_211) rfl) (t_sq (p1 := 55) (Γ' := [(0, 2), (1, 0), (2, 0), (3, 0), (4, 0)]) (t_do (x_callV (ts := [(0, 2)]) ck12 rfl kX12_laysNow mokX12_laysNow w8_140 ps5_13 rfl rfl rfl rfl (a_R (ts := []) 0 a_nil (s_aload_n dX12_carry_51 rfl rfl) rfl) dX12_carry_52 w8_138) rfl) (t_ret (cv := cvI) (fun _ _ => rfl) (s_T (pT := 69) (pF := 73) (p1 := 70) (pe := 74) (c_eq_ZF (pF := 73) (s_dAI (s_getR ck12 42 (by decide) rfl (s_aload_n dX12_carry_55 rfl rfl) dX12_carry_56 w7_7) (s_isub (s_of_xI (x_callV (ts := [(0, 2)]) ck12 rfl kX12_carryMany mokX12_carryMany w8_152 ps6_0 rfl rfl rfl rfl (a_R (ts := []) 0 a_nil (s_aload_n dX12_carry_59 rfl rfl) rfl) dX12_carry_60 w8_150)) (s_iconst dX12_carry_63 rfl) dX12_carry_64) dX12_carry_65) dX12_carry_66 rfl) (s_iconst dX12_carry_69 rfl) (s_iconst dX12_carry_73 rfl) (ld_goto (y := 74) dX12_carry_70 rfl (ld_in rfl))) dX12_carry_74))))))
noncomputable def DX12_carry : Fr → St → Option (Int32 × St) := M1 (fun f => (sI (sI (sI (sI (sR fr0 0 (gR f 0)) 1 (gI f 1)) 2 (gI f 2)) 3 (gI f 3)) 4 (gI f 4))) BX12_carry
theorem kX12_carry : SND yX12_carry cX12_carry 5 (some .int) 6 [(0, 2), (1, 0), (2, 0), (3, 0), (4, 0)] cvoI DX12_carry := snd_I (nw := 5) (by decide) rfl rfl (fun _ _ => rfl) sBX12_carry
theorem dX12_rub_0 : decode cX12_rub 0 = .ok (.aload_n 0, 1) := by decide +kernel
theorem dX12_rub_1 : decode cX12_rub 1 = .ok (.iconst 0, 1) := by decide +kernel
theorem dX12_rub_2 : decode cX12_rub 2 = .ok (.putfield 122, 3) := by decide +kernel
theorem dX12_rub_5 : decode cX12_rub 5 = .ok (.aload_n 0, 1) := by decide +kernel
theorem dX12_rub_6 : decode cX12_rub 6 = .ok (.iload_n 1, 1) := by decide +kernel
theorem dX12_rub_7 : decode cX12_rub 7 = .ok (.invokevirtual 372, 3) := by decide +kernel
theorem dX12_rub_10 : decode cX12_rub 10 = .ok (.ifCond .eq 21, 3) := by decide +kernel
theorem dX12_rub_13 : decode cX12_rub 13 = .ok (.iload_n 2, 1) := by decide +kernel
theorem dX12_rub_14 : decode cX12_rub 14 = .ok (.i2l, 1) := by decide +kernel
theorem dX12_rub_15 : decode cX12_rub 15 = .ok (.lconst 0, 1) := by decide +kernel
theorem dX12_rub_16 : decode cX12_rub 16 = .ok (.aload_n 0, 1) := by decide +kernel
theorem dX12_rub_17 : decode cX12_rub 17 = .ok (.getfield 49, 3) := by decide +kernel
theorem dX12_rub_20 : decode cX12_rub 20 = .ok (.iload_n 1, 1) := by decide +kernel
theorem dX12_rub_21 : decode cX12_rub 21 = .ok (.iaload, 1) := by decide +kernel
theorem dX12_rub_22 : decode cX12_rub 22 = .ok (.i2l, 1) := by decide +kernel
theorem dX12_rub_23 : decode cX12_rub 23 = .ok (.lconst 1, 1) := by decide +kernel
theorem dX12_rub_24 : decode cX12_rub 24 = .ok (.lsub, 1) := by decide +kernel
theorem dX12_rub_25 : decode cX12_rub 25 = .ok (.invokestatic 127, 3) := by decide +kernel
theorem dX12_rub_28 : decode cX12_rub 28 = .ok (.ifCond .ne 6, 3) := by decide +kernel
theorem dX12_rub_31 : decode cX12_rub 31 = .ok (.bipush (-2), 2) := by decide +kernel
theorem dX12_rub_33 : decode cX12_rub 33 = .ok (.ireturn, 1) := by decide +kernel
theorem dX12_rub_34 : decode cX12_rub 34 = .ok (.aload_n 0, 1) := by decide +kernel
theorem dX12_rub_35 : decode cX12_rub 35 = .ok (.getfield 34, 3) := by decide +kernel
theorem dX12_rub_38 : decode cX12_rub 38 = .ok (.bipush 8, 2) := by decide +kernel
theorem dX12_rub_40 : decode cX12_rub 40 = .ok (.iaload, 1) := by decide +kernel
theorem dX12_rub_41 : decode cX12_rub 41 = .ok (.bipush 20, 2) := by decide +kernel
theorem dX12_rub_43 : decode cX12_rub 43 = .ok (.if_icmp .ne 6, 3) := by decide +kernel
theorem dX12_rub_46 : decode cX12_rub 46 = .ok (.bipush (-5), 2) := by decide +kernel
theorem dX12_rub_48 : decode cX12_rub 48 = .ok (.ireturn, 1) := by decide +kernel
theorem dX12_rub_49 : decode cX12_rub 49 = .ok (.aload_n 0, 1) := by decide +kernel
theorem dX12_rub_50 : decode cX12_rub 50 = .ok (.invokevirtual 360, 3) := by decide +kernel
theorem dX12_rub_53 : decode cX12_rub 53 = .ok (.aload_n 0, 1) := by decide +kernel
theorem dX12_rub_54 : decode cX12_rub 54 = .ok (.getfield 68, 3) := by decide +kernel
theorem dX12_rub_57 : decode cX12_rub 57 = .ok (.iload_n 1, 1) := by decide +kernel
theorem dX12_rub_58 : decode cX12_rub 58 = .ok (.iaload, 1) := by decide +kernel
theorem dX12_rub_59 : decode cX12_rub 59 = .ok (.iload_n 2, 1) := by decide +kernel
theorem dX12_rub_60 : decode cX12_rub 60 = .ok (.ishr, 1) := by decide +kernel
theorem dX12_rub_61 : decode cX12_rub 61 = .ok (.iconst 1, 1) := by decide +kernel
theorem dX12_rub_62 : decode cX12_rub 62 = .ok (.iand, 1) := by decide +kernel
theorem dX12_rub_63 : decode cX12_rub 63 = .ok (.istore_n 3, 1) := by decide +kernel
theorem dX12_rub_64 : decode cX12_rub 64 = .ok (.aload_n 0, 1) := by decide +kernel
theorem dX12_rub_65 : decode cX12_rub 65 = .ok (.iconst (-1), 1) := by decide +kernel
theorem dX12_rub_66 : decode cX12_rub 66 = .ok (.iload_n 1, 1) := by decide +kernel
theorem dX12_rub_67 : decode cX12_rub 67 = .ok (.iload_n 2, 1) := by decide +kernel
theorem dX12_rub_68 : decode cX12_rub 68 = .ok (.iconst 0, 1) := by decide +kernel
theorem dX12_rub_69 : decode cX12_rub 69 = .ok (.invokevirtual 497, 3) := by decide +kernel
theorem dX12_rub_72 : decode cX12_rub 72 = .ok (.iload_n 3, 1) := by decide +kernel
theorem dX12_rub_73 : decode cX12_rub 73 = .ok (.ireturn, 1) := by decide +kernel
theorem mokX12_rub : MOK yX12_rub cX12_rub 4 (some .int) 2 := ⟨w9_218, w1_13, ⟨by decide, by decide⟩, by decide +kernel, by decide⟩
abbrev miX12_rub : MI := (yX12_rub.cls, cX12_rub, 4, 3, false)
noncomputable def BX12_rub : Sm Int32 := (dSeq (dP (fI 12 0) (vR 0) (cI 0)) (dSeq (dIf (dOr (dNot (dCZ q_ne (dCallV 12 DX12_isSlate (aI (aR aN 0 (vR 0)) 1 (vI 1))))) (dNot (dCZ q_ne (dCall DX12_in (aL (aL (aL aN 0 (d1 o_i2l (vI 2))) 2 (cL 0)) 4 (d2 o_lsub (d1 o_i2l (dAI (dGR 12 22 (vR 0)) (vI 1))) (cL 1))))))) (dRet (cI (-2))) dSkip) (dSeq (dIf (dCI r_eq (dAI (dGR 12 17 (vR 0)) (cI 8)) (cI 20)) (dRet (cI (-5))) dSkip) (dSeq (dDo (dCallV 12 DX12_lays (aR aN 0 (vR 0)))) (dSeq (dSetI 3 (d2 o_iand (d2 o_ishr (dAI (dGR 12 32 (vR 0)) (vI 1)) (vI 2)) (cI 1))) (dSeq (dDo (dCallV 12 DX12_adds (aI (aI (aI (aI (aR aN 0 (vR 0)) 1 (cI (-1))) 2 (vI 1)) 3 (vI 2)) 4 (cI 0)))) (dRet (vI 3))))))))
theorem sBX12_rub : SS (cvoI, .ireturn) miX12_rub [] [] [] [(0, 2), (1, 0), (2, 0)] [(0, 2), (1, 0), (2, 0)] 0 [] BX12_rub := (t_sq (p1 := 5) (Γ' := [(0, 2), (1, 0), (2, 0)]) (t_pI ck12 0 (by decide) rfl (Or.inl rfl) (s_aload_n dX12_rub_0 rfl rfl) (s_iconst dX12_rub_1 rfl) dX12_rub_2 w6_205 rfl) (t_sq (p1 := 34) (Γ' := [(0, 2), (1, 0), (2, 0)]) (t_if (pT := 31) (pF := 34) (X := [34]) (XA := []) (XB := [34]) (c_or (p1 := 13) (pT := 31) (pF := 34) (c_not (pT := 31) (pF := 13) (c_ne_ZF (pF := 31) (s_of_xI (x_callV (ts := [(0, 2), (1, 0)]) ck12 rfl kX12_isSlate mokX12_isSlate w8_85 ps5_4 rfl rfl rfl rfl (a_I (ts := [(0, 2)]) 1 (a_R (ts := []) 0 a_nil (s_aload_n dX12_rub_5 rfl rfl) rfl) (s_iload_n dX12_rub_6 rfl rfl) rfl) dX12_rub_7 w8_83)) dX12_rub_10 rfl)) (c_not (pT := 31) (pF := 34) (c_ne_ZJ (pT := 34) (s_of_xI (x_call (ts := [(0, 1), (2, 1), (4, 1)]) kX12_in mokX12_in w7_141 rfl rfl rfl (a_L (ts := [(0, 1), (2, 1)]) 4 (a_L (ts := [(0, 1)]) 2 (a_L (ts := []) 0 a_nil (s_i2l (s_iload_n dX12_rub_13 rfl rfl) dX12_rub_14) rfl) (s_lconst dX12_rub_15 rfl) rfl) (s_lsub (s_i2l (s_dAI (s_getR ck12 22 (by decide) rfl (s_aload_n dX12_rub_16 rfl rfl) dX12_rub_17 w6_227) (s_iload_n dX12_rub_20 rfl rfl) dX12_rub_21) dX12_rub_22) (s_lconst dX12_rub_23 rfl) dX12_rub_24) rfl) dX12_rub_25 w7_140)) dX12_rub_28 rfl))) (t_ret (cv := cvI) (fun _ _ => rfl) (s_bipush dX12_rub_31 rfl) dX12_rub_33) (t_skip (ld_in rfl) rfl) lda_nil (lda_cons (ld_in rfl) lda_nil)) (t_sq (p1 := 49) (Γ' := [(0, 2), (1, 0), (2, 0)]) (t_if (pT := 46) (pF := 49) (X := [49]) (XA := []) (XB := [49]) (c_eq_F (pF := 49) (s_dAI (s_getR ck12 17 (by decide) rfl (s_aload_n dX12_rub_34 rfl rfl) dX12_rub_35 w6_222) (s_bipush dX12_rub_38 rfl) dX12_rub_40) (s_bipush dX12_rub_41 rfl) dX12_rub_43 rfl) (t_ret (cv := cvI) (fun _ _ => rfl) (s_bipush dX12_rub_46 rfl) dX12_rub_48) (t_skip (ld_in rfl) rfl) lda_nil (lda_cons (ld_in rfl) lda_nil)) (t_sq (p1 := 53) (Γ' := [(0, 2), (1, 0), (2, 0)]) (t_do (x_callV (ts := [(0, 2)]) ck12 rfl kX12_lays mokX12_lays w8_97 ps5_6 rfl rfl rfl rfl (a_R (ts := []) 0 a_nil (s_aload_n dX12_rub_49 rfl rfl) rfl) dX12_rub_50 w8_95) rfl) (t_sq (p1 := 64) (Γ' := [(0, 2), (1, 0), (2, 0), (3, 0)]) (t_istore_n (s_iand (s_ishr (s_dAI (s_getR ck12 32 (by decide) rfl (s_aload_n dX12_rub_53 rfl rfl) dX12_rub_54 w6_237) (s_iload_n dX12_rub_57 rfl rfl) dX12_rub_58) (s_iload_n dX12_rub_59 rfl rfl) dX12_rub_60) (s_iconst dX12_rub_61 rfl) dX12_rub_62) dX12_rub_63 rfl rfl rfl) (t_sq (p1 := 72) (Γ' := [(0, 2), (1, 0), (2, 0), (3, 0)]) (t_do (x_callV (ts := [(0, 2), (1, 0), (2, 0), (3, 0), (4, 0)]) ck12 rfl kX12_adds mokX12_adds w9_213 ps7_11 rfl rfl rfl rfl (a_I (ts := [(0, 2), (1, 0), (2, 0), (3, 0)]) 4 (a_I (ts := [(0, 2), (1, 0), (2, 0)]) 3 (a_I (ts := [(0, 2), (1, 0)]) 2 (a_I (ts := [(0, 2)]) 1 (a_R (ts := []) 0 a_nil (s_aload_n dX12_rub_64 rfl rfl) rfl) (s_iconst dX12_rub_65 rfl) rfl) (s_iload_n dX12_rub_66 rfl rfl) rfl) (s_iload_n dX12_rub_67 rfl rfl) rfl) (s_iconst dX12_rub_68 rfl) rfl) dX12_rub_69 w9_211) rfl) (t_ret (cv := cvI) (fun _ _ => rfl) (s_iload_n dX12_rub_72 rfl rfl) dX12_rub_73)))))))
noncomputable def DX12_rub : Fr → St → Option (Int32 × St) := M1 (fun f => (sI (sI (sR fr0 0 (gR f 0)) 1 (gI f 1)) 2 (gI f 2))) BX12_rub
theorem kX12_rub : SND yX12_rub cX12_rub 4 (some .int) 3 [(0, 2), (1, 0), (2, 0)] cvoI DX12_rub := snd_I (nw := 3) (by decide) rfl rfl (fun _ _ => rfl) sBX12_rub
theorem dX12_undo_0 : decode cX12_undo 0 = .ok (.aload_n 0, 1) := by decide +kernel
theorem dX12_undo_1 : decode cX12_undo 1 = .ok (.iconst 0, 1) := by decide +kernel
theorem dX12_undo_2 : decode cX12_undo 2 = .ok (.putfield 122, 3) := by decide +kernel
theorem dX12_undo_5 : decode cX12_undo 5 = .ok (.aload_n 0, 1) := by decide +kernel
theorem dX12_undo_6 : decode cX12_undo 6 = .ok (.invokevirtual 301, 3) := by decide +kernel
theorem dX12_undo_9 : decode cX12_undo 9 = .ok (.ifCond .ne 6, 3) := by decide +kernel
theorem dX12_undo_12 : decode cX12_undo 12 = .ok (.bipush (-2), 2) := by decide +kernel
theorem dX12_undo_14 : decode cX12_undo 14 = .ok (.ireturn, 1) := by decide +kernel
theorem dX12_undo_15 : decode cX12_undo 15 = .ok (.aload_n 0, 1) := by decide +kernel
theorem dX12_undo_16 : decode cX12_undo 16 = .ok (.getfield 34, 3) := by decide +kernel
theorem dX12_undo_19 : decode cX12_undo 19 = .ok (.bipush 8, 2) := by decide +kernel
theorem dX12_undo_21 : decode cX12_undo 21 = .ok (.iaload, 1) := by decide +kernel
theorem dX12_undo_22 : decode cX12_undo 22 = .ok (.ifCond .ne 6, 3) := by decide +kernel
theorem dX12_undo_25 : decode cX12_undo 25 = .ok (.bipush (-5), 2) := by decide +kernel
theorem dX12_undo_27 : decode cX12_undo 27 = .ok (.ireturn, 1) := by decide +kernel
theorem dX12_undo_28 : decode cX12_undo 28 = .ok (.aload_n 0, 1) := by decide +kernel
theorem dX12_undo_29 : decode cX12_undo 29 = .ok (.getfield 34, 3) := by decide +kernel
theorem dX12_undo_32 : decode cX12_undo 32 = .ok (.bipush 8, 2) := by decide +kernel
theorem dX12_undo_34 : decode cX12_undo 34 = .ok (.dup2, 1) := by decide +kernel
theorem dX12_undo_35 : decode cX12_undo 35 = .ok (.iaload, 1) := by decide +kernel
theorem dX12_undo_36 : decode cX12_undo 36 = .ok (.iconst 1, 1) := by decide +kernel
theorem dX12_undo_37 : decode cX12_undo 37 = .ok (.isub, 1) := by decide +kernel
theorem dX12_undo_38 : decode cX12_undo 38 = .ok (.iastore, 1) := by decide +kernel
theorem dX12_undo_39 : decode cX12_undo 39 = .ok (.aload_n 0, 1) := by decide +kernel
theorem dX12_undo_40 : decode cX12_undo 40 = .ok (.getfield 34, 3) := by decide +kernel
theorem dX12_undo_43 : decode cX12_undo 43 = .ok (.bipush 8, 2) := by decide +kernel
theorem dX12_undo_45 : decode cX12_undo 45 = .ok (.iaload, 1) := by decide +kernel
theorem dX12_undo_46 : decode cX12_undo 46 = .ok (.ireturn, 1) := by decide +kernel
theorem mokX12_undo : MOK yX12_undo cX12_undo 1 (some .int) 0 := ⟨w9_222, w1_13, ⟨by decide, by decide⟩, by decide +kernel, by decide⟩
abbrev miX12_undo : MI := (yX12_undo.cls, cX12_undo, 1, 2, false)
noncomputable def BX12_undo : Sm Int32 := (dSeq (dP (fI 12 0) (vR 0) (cI 0)) (dSeq (dIf (dNot (dCZ q_ne (dCallV 12 DX12_isPort (aR aN 0 (vR 0))))) (dRet (cI (-2))) dSkip) (dSeq (dIf (dCZ q_eq (dAI (dGR 12 17 (vR 0)) (cI 8))) (dRet (cI (-5))) dSkip) (dSeq (dUA o_isub (dGR 12 17 (vR 0)) (cI 8) (cI 1)) (dRet (dAI (dGR 12 17 (vR 0)) (cI 8)))))))
theorem sBX12_undo : SS (cvoI, .ireturn) miX12_undo [] [] [] [(0, 2)] [(0, 2)] 0 [] BX12_undo := (t_sq (p1 := 5) (Γ' := [(0, 2)]) (t_pI ck12 0 (by decide) rfl (Or.inl rfl) (s_aload_n dX12_undo_0 rfl rfl) (s_iconst dX12_undo_1 rfl) dX12_undo_2 w6_205 rfl) (t_sq (p1 := 15) (Γ' := [(0, 2)]) (t_if (pT := 12) (pF := 15) (X := [15]) (XA := []) (XB := [15]) (c_not (pT := 12) (pF := 15) (c_ne_ZJ (pT := 15) (s_of_xI (x_callV (ts := [(0, 2)]) ck12 rfl kX12_isPort mokX12_isPort w8_132 ps5_11 rfl rfl rfl rfl (a_R (ts := []) 0 a_nil (s_aload_n dX12_undo_5 rfl rfl) rfl) dX12_undo_6 w8_130)) dX12_undo_9 rfl)) (t_ret (cv := cvI) (fun _ _ => rfl) (s_bipush dX12_undo_12 rfl) dX12_undo_14) (t_skip (ld_in rfl) rfl) lda_nil (lda_cons (ld_in rfl) lda_nil)) (t_sq (p1 := 28) (Γ' := [(0, 2)]) (t_if (pT := 25) (pF := 28) (X := [28]) (XA := []) (XB := [28]) (c_eq_ZF (pF := 28) (s_dAI (s_getR ck12 17 (by decide) rfl (s_aload_n dX12_undo_15 rfl rfl) dX12_undo_16 w6_222) (s_bipush dX12_undo_19 rfl) dX12_undo_21) dX12_undo_22 rfl) (t_ret (cv := cvI) (fun _ _ => rfl) (s_bipush dX12_undo_25 rfl) dX12_undo_27) (t_skip (ld_in rfl) rfl) lda_nil (lda_cons (ld_in rfl) lda_nil)) (t_sq (p1 := 39) (Γ' := [(0, 2)]) (t_UA (s_getR ck12 17 (by decide) rfl (s_aload_n dX12_undo_28 rfl rfl) dX12_undo_29 w6_222) (s_bipush dX12_undo_32 rfl) dX12_undo_34 dX12_undo_35 (s_iconst dX12_undo_36 rfl) (fun _ _ _ _ => rulI fun a b K => lv_isub a b dX12_undo_37 K) dX12_undo_38 rfl) (t_ret (cv := cvI) (fun _ _ => rfl) (s_dAI (s_getR ck12 17 (by decide) rfl (s_aload_n dX12_undo_39 rfl rfl) dX12_undo_40 w6_222) (s_bipush dX12_undo_43 rfl) dX12_undo_45) dX12_undo_46)))))
noncomputable def DX12_undo : Fr → St → Option (Int32 × St) := M1 (fun f => (sR fr0 0 (gR f 0))) BX12_undo
theorem kX12_undo : SND yX12_undo cX12_undo 1 (some .int) 2 [(0, 2)] cvoI DX12_undo := snd_I (nw := 1) (by decide) rfl rfl (fun _ _ => rfl) sBX12_undo
theorem dX12_anew_0 : decode cX12_anew 0 = .ok (.aload_n 0, 1) := by decide +kernel
theorem dX12_anew_1 : decode cX12_anew 1 = .ok (.iconst 0, 1) := by decide +kernel
theorem dX12_anew_2 : decode cX12_anew 2 = .ok (.putfield 122, 3) := by decide +kernel
theorem dX12_anew_5 : decode cX12_anew 5 = .ok (.aload_n 0, 1) := by decide +kernel
theorem dX12_anew_6 : decode cX12_anew 6 = .ok (.invokevirtual 301, 3) := by decide +kernel
theorem dX12_anew_9 : decode cX12_anew 9 = .ok (.ifCond .ne 6, 3) := by decide +kernel
theorem dX12_anew_12 : decode cX12_anew 12 = .ok (.bipush (-2), 2) := by decide +kernel
theorem dX12_anew_14 : decode cX12_anew 14 = .ok (.ireturn, 1) := by decide +kernel
theorem dX12_anew_15 : decode cX12_anew 15 = .ok (.aload_n 0, 1) := by decide +kernel
theorem dX12_anew_16 : decode cX12_anew 16 = .ok (.getfield 34, 3) := by decide +kernel
theorem dX12_anew_19 : decode cX12_anew 19 = .ok (.bipush 8, 2) := by decide +kernel
theorem dX12_anew_21 : decode cX12_anew 21 = .ok (.iaload, 1) := by decide +kernel
theorem dX12_anew_22 : decode cX12_anew 22 = .ok (.istore_n 1, 1) := by decide +kernel
theorem dX12_anew_23 : decode cX12_anew 23 = .ok (.aload_n 0, 1) := by decide +kernel
theorem dX12_anew_24 : decode cX12_anew 24 = .ok (.getfield 34, 3) := by decide +kernel
theorem dX12_anew_27 : decode cX12_anew 27 = .ok (.bipush 8, 2) := by decide +kernel
theorem dX12_anew_29 : decode cX12_anew 29 = .ok (.iconst 0, 1) := by decide +kernel
theorem dX12_anew_30 : decode cX12_anew 30 = .ok (.iastore, 1) := by decide +kernel
theorem dX12_anew_31 : decode cX12_anew 31 = .ok (.iload_n 1, 1) := by decide +kernel
theorem dX12_anew_32 : decode cX12_anew 32 = .ok (.ireturn, 1) := by decide +kernel
theorem mokX12_anew : MOK yX12_anew cX12_anew 2 (some .int) 0 := ⟨w9_226, w1_13, ⟨by decide, by decide⟩, by decide +kernel, by decide⟩
abbrev miX12_anew : MI := (yX12_anew.cls, cX12_anew, 2, 2, false)
noncomputable def BX12_anew : Sm Int32 := (dSeq (dP (fI 12 0) (vR 0) (cI 0)) (dSeq (dIf (dNot (dCZ q_ne (dCallV 12 DX12_isPort (aR aN 0 (vR 0))))) (dRet (cI (-2))) dSkip) (dSeq (dSetI 1 (dAI (dGR 12 17 (vR 0)) (cI 8))) (dSeq (d3 (stI 13 idI) (dGR 12 17 (vR 0)) (cI 8) (cI 0)) (dRet (vI 1))))))
theorem sBX12_anew : SS (cvoI, .ireturn) miX12_anew [] [] [] [(0, 2)] [(0, 2)] 0 [] BX12_anew := (t_sq (p1 := 5) (Γ' := [(0, 2)]) (t_pI ck12 0 (by decide) rfl (Or.inl rfl) (s_aload_n dX12_anew_0 rfl rfl) (s_iconst dX12_anew_1 rfl) dX12_anew_2 w6_205 rfl) (t_sq (p1 := 15) (Γ' := [(0, 2)]) (t_if (pT := 12) (pF := 15) (X := [15]) (XA := []) (XB := [15]) (c_not (pT := 12) (pF := 15) (c_ne_ZJ (pT := 15) (s_of_xI (x_callV (ts := [(0, 2)]) ck12 rfl kX12_isPort mokX12_isPort w8_132 ps5_11 rfl rfl rfl rfl (a_R (ts := []) 0 a_nil (s_aload_n dX12_anew_5 rfl rfl) rfl) dX12_anew_6 w8_130)) dX12_anew_9 rfl)) (t_ret (cv := cvI) (fun _ _ => rfl) (s_bipush dX12_anew_12 rfl) dX12_anew_14) (t_skip (ld_in rfl) rfl) lda_nil (lda_cons (ld_in rfl) lda_nil)) (t_sq (p1 := 23) (Γ' := [(0, 2), (1, 0)]) (t_istore_n (s_dAI (s_getR ck12 17 (by decide) rfl (s_aload_n dX12_anew_15 rfl rfl) dX12_anew_16 w6_222) (s_bipush dX12_anew_19 rfl) dX12_anew_21) dX12_anew_22 rfl rfl rfl) (t_sq (p1 := 31) (Γ' := [(0, 2), (1, 0)]) (t_stI (s_getR ck12 17 (by decide) rfl (s_aload_n dX12_anew_23 rfl rfl) dX12_anew_24 w6_222) (s_bipush dX12_anew_27 rfl) (s_iconst dX12_anew_29 rfl) dX12_anew_30 rfl) (t_ret (cv := cvI) (fun _ _ => rfl) (s_iload_n dX12_anew_31 rfl rfl) dX12_anew_32)))))
noncomputable def DX12_anew : Fr → St → Option (Int32 × St) := M1 (fun f => (sR fr0 0 (gR f 0))) BX12_anew
theorem kX12_anew : SND yX12_anew cX12_anew 2 (some .int) 2 [(0, 2)] cvoI DX12_anew := snd_I (nw := 1) (by decide) rfl rfl (fun _ _ => rfl) sBX12_anew
theorem dX12_rate_0 : decode cX12_rate 0 = .ok (.aload_n 0, 1) := by decide +kernel
theorem dX12_rate_1 : decode cX12_rate 1 = .ok (.iconst 0, 1) := by decide +kernel
theorem dX12_rate_2 : decode cX12_rate 2 = .ok (.putfield 122, 3) := by decide +kernel
theorem dX12_rate_5 : decode cX12_rate 5 = .ok (.aload_n 0, 1) := by decide +kernel
theorem dX12_rate_6 : decode cX12_rate 6 = .ok (.iload_n 1, 1) := by decide +kernel
theorem dX12_rate_7 : decode cX12_rate 7 = .ok (.invokevirtual 366, 3) := by decide +kernel
theorem dX12_rate_10 : decode cX12_rate 10 = .ok (.ifCond .eq 15, 3) := by decide +kernel
theorem dX12_rate_13 : decode cX12_rate 13 = .ok (.iload_n 2, 1) := by decide +kernel
theorem dX12_rate_14 : decode cX12_rate 14 = .ok (.i2l, 1) := by decide +kernel
theorem dX12_rate_15 : decode cX12_rate 15 = .ok (.lconst 0, 1) := by decide +kernel
theorem dX12_rate_16 : decode cX12_rate 16 = .ok (.ldc2_w 501, 3) := by decide +kernel
theorem dX12_rate_19 : decode cX12_rate 19 = .ok (.invokestatic 127, 3) := by decide +kernel
theorem dX12_rate_22 : decode cX12_rate 22 = .ok (.ifCond .ne 6, 3) := by decide +kernel
theorem dX12_rate_25 : decode cX12_rate 25 = .ok (.bipush (-2), 2) := by decide +kernel
theorem dX12_rate_27 : decode cX12_rate 27 = .ok (.ireturn, 1) := by decide +kernel
theorem dX12_rate_28 : decode cX12_rate 28 = .ok (.aload_n 0, 1) := by decide +kernel
theorem dX12_rate_29 : decode cX12_rate 29 = .ok (.getfield 34, 3) := by decide +kernel
theorem dX12_rate_32 : decode cX12_rate 32 = .ok (.bipush 8, 2) := by decide +kernel
theorem dX12_rate_34 : decode cX12_rate 34 = .ok (.iaload, 1) := by decide +kernel
theorem dX12_rate_35 : decode cX12_rate 35 = .ok (.ifCond .le 6, 3) := by decide +kernel
theorem dX12_rate_38 : decode cX12_rate 38 = .ok (.bipush (-5), 2) := by decide +kernel
theorem dX12_rate_40 : decode cX12_rate 40 = .ok (.ireturn, 1) := by decide +kernel
theorem dX12_rate_41 : decode cX12_rate 41 = .ok (.aload_n 0, 1) := by decide +kernel
theorem dX12_rate_42 : decode cX12_rate 42 = .ok (.getfield 43, 3) := by decide +kernel
theorem dX12_rate_45 : decode cX12_rate 45 = .ok (.iconst 2, 1) := by decide +kernel
theorem dX12_rate_46 : decode cX12_rate 46 = .ok (.iload_n 1, 1) := by decide +kernel
theorem dX12_rate_47 : decode cX12_rate 47 = .ok (.imul, 1) := by decide +kernel
theorem dX12_rate_48 : decode cX12_rate 48 = .ok (.iconst 1, 1) := by decide +kernel
theorem dX12_rate_49 : decode cX12_rate 49 = .ok (.iadd, 1) := by decide +kernel
theorem dX12_rate_50 : decode cX12_rate 50 = .ok (.iaload, 1) := by decide +kernel
theorem dX12_rate_51 : decode cX12_rate 51 = .ok (.istore_n 3, 1) := by decide +kernel
theorem dX12_rate_52 : decode cX12_rate 52 = .ok (.aload_n 0, 1) := by decide +kernel
theorem dX12_rate_53 : decode cX12_rate 53 = .ok (.getfield 43, 3) := by decide +kernel
theorem dX12_rate_56 : decode cX12_rate 56 = .ok (.iconst 2, 1) := by decide +kernel
theorem dX12_rate_57 : decode cX12_rate 57 = .ok (.iload_n 1, 1) := by decide +kernel
theorem dX12_rate_58 : decode cX12_rate 58 = .ok (.imul, 1) := by decide +kernel
theorem dX12_rate_59 : decode cX12_rate 59 = .ok (.iconst 1, 1) := by decide +kernel
theorem dX12_rate_60 : decode cX12_rate 60 = .ok (.iadd, 1) := by decide +kernel
theorem dX12_rate_61 : decode cX12_rate 61 = .ok (.iload_n 2, 1) := by decide +kernel
theorem dX12_rate_62 : decode cX12_rate 62 = .ok (.iastore, 1) := by decide +kernel
theorem dX12_rate_63 : decode cX12_rate 63 = .ok (.iload_n 3, 1) := by decide +kernel
theorem dX12_rate_64 : decode cX12_rate 64 = .ok (.ireturn, 1) := by decide +kernel
theorem mokX12_rate : MOK yX12_rate cX12_rate 4 (some .int) 2 := ⟨w9_230, w1_13, ⟨by decide, by decide⟩, by decide +kernel, by decide⟩
abbrev miX12_rate : MI := (yX12_rate.cls, cX12_rate, 4, 3, false)
noncomputable def BX12_rate : Sm Int32 := (dSeq (dP (fI 12 0) (vR 0) (cI 0)) (dSeq (dIf (dOr (dNot (dCZ q_ne (dCallV 12 DX12_isCarrier (aI (aR aN 0 (vR 0)) 1 (vI 1))))) (dNot (dCZ q_ne (dCall DX12_in (aL (aL (aL aN 0 (d1 o_i2l (vI 2))) 2 (cL 0)) 4 (cL 99)))))) (dRet (cI (-2))) dSkip) (dSeq (dIf (dCZ q_gt (dAI (dGR 12 17 (vR 0)) (cI 8))) (dRet (cI (-5))) dSkip) (dSeq (dSetI 3 (dAI (dGR 12 20 (vR 0)) (d2 o_iadd (d2 o_imul (cI 2) (vI 1)) (cI 1)))) (dSeq (d3 (stI 13 idI) (dGR 12 20 (vR 0)) (d2 o_iadd (d2 o_imul (cI 2) (vI 1)) (cI 1)) (vI 2)) (dRet (vI 3)))))))
theorem sBX12_rate : SS (cvoI, .ireturn) miX12_rate [] [] [] [(0, 2), (1, 0), (2, 0)] [(0, 2), (1, 0), (2, 0)] 0 [] BX12_rate := (t_sq (p1 := 5) (Γ' := [(0, 2), (1, 0), (2, 0)]) (t_pI ck12 0 (by decide) rfl (Or.inl rfl) (s_aload_n dX12_rate_0 rfl rfl) (s_iconst dX12_rate_1 rfl) dX12_rate_2 w6_205 rfl) (t_sq (p1 := 28) (Γ' := [(0, 2), (1, 0), (2, 0)]) (t_if (pT := 25) (pF := 28) (X := [28]) (XA := []) (XB := [28]) (c_or (p1 := 13) (pT := 25) (pF := 28) (c_not (pT := 25) (pF := 13) (c_ne_ZF (pF := 25) (s_of_xI (x_callV (ts := [(0, 2), (1, 0)]) ck12 rfl kX12_isCarrier mokX12_isCarrier w8_70 ps5_2 rfl rfl rfl rfl (a_I (ts := [(0, 2)]) 1 (a_R (ts := []) 0 a_nil (s_aload_n dX12_rate_5 rfl rfl) rfl) (s_iload_n dX12_rate_6 rfl rfl) rfl) dX12_rate_7 w8_68)) dX12_rate_10 rfl)) (c_not (pT := 25) (pF := 28) (c_ne_ZJ (pT := 28) (s_of_xI (x_call (ts := [(0, 1), (2, 1), (4, 1)]) kX12_in mokX12_in w7_141 rfl rfl rfl (a_L (ts := [(0, 1), (2, 1)]) 4 (a_L (ts := [(0, 1)]) 2 (a_L (ts := []) 0 a_nil (s_i2l (s_iload_n dX12_rate_13 rfl rfl) dX12_rate_14) rfl) (s_lconst dX12_rate_15 rfl) rfl) (s_ldc2 dX12_rate_16 w9_231) rfl) dX12_rate_19 w7_140)) dX12_rate_22 rfl))) (t_ret (cv := cvI) (fun _ _ => rfl) (s_bipush dX12_rate_25 rfl) dX12_rate_27) (t_skip (ld_in rfl) rfl) lda_nil (lda_cons (ld_in rfl) lda_nil)) (t_sq (p1 := 41) (Γ' := [(0, 2), (1, 0), (2, 0)]) (t_if (pT := 38) (pF := 41) (X := [41]) (XA := []) (XB := [41]) (c_gt_ZF (pF := 41) (s_dAI (s_getR ck12 17 (by decide) rfl (s_aload_n dX12_rate_28 rfl rfl) dX12_rate_29 w6_222) (s_bipush dX12_rate_32 rfl) dX12_rate_34) dX12_rate_35 rfl) (t_ret (cv := cvI) (fun _ _ => rfl) (s_bipush dX12_rate_38 rfl) dX12_rate_40) (t_skip (ld_in rfl) rfl) lda_nil (lda_cons (ld_in rfl) lda_nil)) (t_sq (p1 := 52) (Γ' := [(0, 2), (1, 0), (2, 0), (3, 0)]) (t_istore_n (s_dAI (s_getR ck12 20 (by decide) rfl (s_aload_n dX12_rate_41 rfl rfl) dX12_rate_42 w6_225) (s_iadd (s_imul (s_iconst dX12_rate_45 rfl) (s_iload_n dX12_rate_46 rfl rfl) dX12_rate_47) (s_iconst dX12_rate_48 rfl) dX12_rate_49) dX12_rate_50) dX12_rate_51 rfl rfl rfl) (t_sq (p1 := 63) (Γ' := [(0, 2), (1, 0), (2, 0), (3, 0)]) (t_stI (s_getR ck12 20 (by decide) rfl (s_aload_n dX12_rate_52 rfl rfl) dX12_rate_53 w6_225) (s_iadd (s_imul (s_iconst dX12_rate_56 rfl) (s_iload_n dX12_rate_57 rfl rfl) dX12_rate_58) (s_iconst dX12_rate_59 rfl) dX12_rate_60) (s_iload_n dX12_rate_61 rfl rfl) dX12_rate_62 rfl) (t_ret (cv := cvI) (fun _ _ => rfl) (s_iload_n dX12_rate_63 rfl rfl) dX12_rate_64))))))
noncomputable def DX12_rate : Fr → St → Option (Int32 × St) := M1 (fun f => (sI (sI (sR fr0 0 (gR f 0)) 1 (gI f 1)) 2 (gI f 2))) BX12_rate
theorem kX12_rate : SND yX12_rate cX12_rate 4 (some .int) 3 [(0, 2), (1, 0), (2, 0)] cvoI DX12_rate := snd_I (nw := 3) (by decide) rfl rfl (fun _ _ => rfl) sBX12_rate
theorem dX12_count_0 : decode cX12_count 0 = .ok (.aload_n 0, 1) := by decide +kernel
theorem dX12_count_1 : decode cX12_count 1 = .ok (.iconst 0, 1) := by decide +kernel
theorem dX12_count_2 : decode cX12_count 2 = .ok (.putfield 122, 3) := by decide +kernel
theorem dX12_count_5 : decode cX12_count 5 = .ok (.iload_n 1, 1) := by decide +kernel
theorem dX12_count_6 : decode cX12_count 6 = .ok (.i2l, 1) := by decide +kernel
theorem dX12_count_7 : decode cX12_count 7 = .ok (.lconst 0, 1) := by decide +kernel
theorem dX12_count_8 : decode cX12_count 8 = .ok (.ldc2_w 503, 3) := by decide +kernel
theorem dX12_count_11 : decode cX12_count 11 = .ok (.invokestatic 127, 3) := by decide +kernel
theorem dX12_count_14 : decode cX12_count 14 = .ok (.ifCond .eq 10, 3) := by decide +kernel
theorem dX12_count_17 : decode cX12_count 17 = .ok (.aload_n 0, 1) := by decide +kernel
theorem dX12_count_18 : decode cX12_count 18 = .ok (.getfield 34, 3) := by decide +kernel
theorem dX12_count_21 : decode cX12_count 21 = .ok (.iload_n 1, 1) := by decide +kernel
theorem dX12_count_22 : decode cX12_count 22 = .ok (.iaload, 1) := by decide +kernel
theorem dX12_count_23 : decode cX12_count 23 = .ok (.ireturn, 1) := by decide +kernel
theorem dX12_count_24 : decode cX12_count 24 = .ok (.iconst 0, 1) := by decide +kernel
theorem dX12_count_25 : decode cX12_count 25 = .ok (.istore_n 2, 1) := by decide +kernel
theorem dX12_count_26 : decode cX12_count 26 = .ok (.iload_n 1, 1) := by decide +kernel
theorem dX12_count_27 : decode cX12_count 27 = .ok (.tableswitch 70 9 11 #[25, 32, 37], 25) := by decide +kernel
theorem dX12_count_52 : decode cX12_count 52 = .ok (.aload_n 0, 1) := by decide +kernel
theorem dX12_count_53 : decode cX12_count 53 = .ok (.getfield 31, 3) := by decide +kernel
theorem dX12_count_56 : decode cX12_count 56 = .ok (.iconst 0, 1) := by decide +kernel
theorem dX12_count_57 : decode cX12_count 57 = .ok (.iaload, 1) := by decide +kernel
theorem dX12_count_58 : decode cX12_count 58 = .ok (.ireturn, 1) := by decide +kernel
theorem dX12_count_59 : decode cX12_count 59 = .ok (.aload_n 0, 1) := by decide +kernel
theorem dX12_count_60 : decode cX12_count 60 = .ok (.getfield 139, 3) := by decide +kernel
theorem dX12_count_63 : decode cX12_count 63 = .ok (.ireturn, 1) := by decide +kernel
theorem dX12_count_64 : decode cX12_count 64 = .ok (.iconst 0, 1) := by decide +kernel
theorem dX12_count_65 : decode cX12_count 65 = .ok (.istore_n 3, 1) := by decide +kernel
theorem dX12_count_66 : decode cX12_count 66 = .ok (.iload_n 3, 1) := by decide +kernel
theorem dX12_count_67 : decode cX12_count 67 = .ok (.iconst 4, 1) := by decide +kernel
theorem dX12_count_68 : decode cX12_count 68 = .ok (.if_icmp .ge 27, 3) := by decide +kernel
theorem dX12_count_71 : decode cX12_count 71 = .ok (.iload_n 2, 1) := by decide +kernel
theorem dX12_count_72 : decode cX12_count 72 = .ok (.aload_n 0, 1) := by decide +kernel
theorem dX12_count_73 : decode cX12_count 73 = .ok (.getfield 7, 3) := by decide +kernel
theorem dX12_count_76 : decode cX12_count 76 = .ok (.iload_n 3, 1) := by decide +kernel
theorem dX12_count_77 : decode cX12_count 77 = .ok (.iaload, 1) := by decide +kernel
theorem dX12_count_78 : decode cX12_count 78 = .ok (.iconst (-1), 1) := by decide +kernel
theorem dX12_count_79 : decode cX12_count 79 = .ok (.if_icmp .ne 7, 3) := by decide +kernel
theorem dX12_count_82 : decode cX12_count 82 = .ok (.iconst 0, 1) := by decide +kernel
theorem dX12_count_83 : decode cX12_count 83 = .ok (.goto 4, 3) := by decide +kernel
theorem dX12_count_86 : decode cX12_count 86 = .ok (.iconst 1, 1) := by decide +kernel
theorem dX12_count_87 : decode cX12_count 87 = .ok (.iadd, 1) := by decide +kernel
theorem dX12_count_88 : decode cX12_count 88 = .ok (.istore_n 2, 1) := by decide +kernel
theorem dX12_count_89 : decode cX12_count 89 = .ok (.iinc 3 1, 3) := by decide +kernel
theorem dX12_count_92 : decode cX12_count 92 = .ok (.goto (-26), 3) := by decide +kernel
theorem dX12_count_95 : decode cX12_count 95 = .ok (.iload_n 2, 1) := by decide +kernel
theorem dX12_count_96 : decode cX12_count 96 = .ok (.ireturn, 1) := by decide +kernel
theorem dX12_count_97 : decode cX12_count 97 = .ok (.iconst (-1), 1) := by decide +kernel
theorem dX12_count_98 : decode cX12_count 98 = .ok (.ireturn, 1) := by decide +kernel
theorem mokX12_count : MOK yX12_count cX12_count 4 (some .int) 1 := ⟨w9_235, w1_13, ⟨by decide, by decide⟩, by decide +kernel, by decide⟩
abbrev miX12_count : MI := (yX12_count.cls, cX12_count, 4, 2, false)
noncomputable def LX12_count_1 : Sm Int32 := dLoop (fun f => (sI (sI (sI (sR fr0 0 (gR f 0)) 1 (gI f 1)) 2 (gI f 2)) 3 (gI f 3))) (dCI r_lt (vI 3) (cI 4)) (dSetI 2 (d2 o_iadd (vI 2) (dT (dCI r_eq (dAI (dGR 12 1 (vR 0)) (vI 3)) (cI (-1))) (cI 0) (cI 1)))) (dInc 3 1)
theorem sLX12_count_1 {ΓL : Gm} {PB PK : List Nat} : SS (cvoI, .ireturn) miX12_count ΓL PB PK [(0, 2), (1, 0), (2, 0), (3, 0)] [(0, 2), (1, 0), (2, 0), (3, 0)] 66 [95] LX12_count_1 := t_loop (pT := 71) (pF := 95) (pu := 89) (PB' := []) (PK' := []) (XB := [89]) (XU := [92]) (fun _ _ => rfl) rfl (c_lt_F (pF := 95) (s_iload_n dX12_count_66 rfl rfl) (s_iconst dX12_count_67 rfl) dX12_count_68 rfl) (t_istore_n (s_iadd (s_iload_n dX12_count_71 rfl rfl) (s_T (pT := 82) (pF := 86) (p1 := 83) (pe := 87) (c_eq_F (pF := 86) (s_dAI (s_getR ck12 1 (by decide) rfl (s_aload_n dX12_count_72 rfl rfl) dX12_count_73 w6_206) (s_iload_n dX12_count_76 rfl rfl) dX12_count_77) (s_iconst dX12_count_78 rfl) dX12_count_79 rfl) (s_iconst dX12_count_82 rfl) (s_iconst dX12_count_86 rfl) (ld_goto (y := 87) dX12_count_83 rfl (ld_in rfl))) dX12_count_87) dX12_count_88 rfl rfl rfl) (t_iinc dX12_count_89 rfl rfl rfl rfl) (lda_cons (ld_in rfl) lda_nil) lda_nil (lda_cons (ld_goto (y := 66) dX12_count_92 rfl (ld_in rfl)) lda_nil) (ld_in rfl) lda_nil
noncomputable def BX12_count : Sm Int32 := (dSeq (dP (fI 12 0) (vR 0) (cI 0)) (dSeq (dIf (dCZ q_ne (dCall DX12_in (aL (aL (aL aN 0 (d1 o_i2l (vI 1))) 2 (cL 0)) 4 (cL 8)))) (dRet (dAI (dGR 12 17 (vR 0)) (vI 1))) dSkip) (dSeq (dSetI 2 (cI 0)) (dSw 9 (vI 1) [(dRet (dAI (dGR 12 16 (vR 0)) (cI 0))), (dRet (dGI 12 6 (vR 0))), (dSeq (dSeq (dSetI 3 (cI 0)) LX12_count_1) (dRet (vI 2)))] (dRet (cI (-1)))))))
theorem sBX12_count : SS (cvoI, .ireturn) miX12_count [] [] [] [(0, 2), (1, 0)] [(0, 2), (1, 0)] 0 [] BX12_count := (t_sq (p1 := 5) (Γ' := [(0, 2), (1, 0)]) (t_pI ck12 0 (by decide) rfl (Or.inl rfl) (s_aload_n dX12_count_0 rfl rfl) (s_iconst dX12_count_1 rfl) dX12_count_2 w6_205 rfl) (t_sq (p1 := 24) (Γ' := [(0, 2), (1, 0)]) (t_if (pT := 17) (pF := 24) (X := [24]) (XA := []) (XB := [24]) (c_ne_ZF (pF := 24) (s_of_xI (x_call (ts := [(0, 1), (2, 1), (4, 1)]) kX12_in mokX12_in w7_141 rfl rfl rfl (a_L (ts := [(0, 1), (2, 1)]) 4 (a_L (ts := [(0, 1)]) 2 (a_L (ts := []) 0 a_nil (s_i2l (s_iload_n dX12_count_5 rfl rfl) dX12_count_6) rfl) (s_lconst dX12_count_7 rfl) rfl) (s_ldc2 dX12_count_8 w9_236) rfl) dX12_count_11 w7_140)) dX12_count_14 rfl) (t_ret (cv := cvI) (fun _ _ => rfl) (s_dAI (s_getR ck12 17 (by decide) rfl (s_aload_n dX12_count_17 rfl rfl) dX12_count_18 w6_222) (s_iload_n dX12_count_21 rfl rfl) dX12_count_22) dX12_count_23) (t_skip (ld_in rfl) rfl) lda_nil (lda_cons (ld_in rfl) lda_nil)) (t_sq (p1 := 26) (Γ' := [(0, 2), (1, 0), (2, 0)]) (t_istore_n (s_iconst dX12_count_24 rfl) dX12_count_25 rfl rfl rfl) (t_sw (PK := []) (X := []) (ps := [52, 59, 64]) (lo := 9) (pD := 97) (s_iload_n dX12_count_26 rfl rfl) dX12_count_27 rfl rfl rfl ⟨(t_ret (cv := cvI) (fun _ _ => rfl) (s_dAI (s_getR ck12 16 (by decide) rfl (s_aload_n dX12_count_52 rfl rfl) dX12_count_53 w6_221) (s_iconst dX12_count_56 rfl) dX12_count_57) dX12_count_58), ⟨(t_ret (cv := cvI) (fun _ _ => rfl) (s_getI ck12 6 (by decide) rfl (s_aload_n dX12_count_59 rfl rfl) dX12_count_60 w6_211) dX12_count_63), ⟨(t_sq (p1 := 95) (Γ' := [(0, 2), (1, 0), (2, 0)]) (t_sq (p1 := 66) (Γ' := [(0, 2), (1, 0), (2, 0), (3, 0)]) (t_istore_n (s_iconst dX12_count_64 rfl) dX12_count_65 rfl rfl rfl) (tn_to (Γ' := [(0, 2), (1, 0), (2, 0), (3, 0)]) (XA := [95]) sLX12_count_1 (lda_cons (ld_in rfl) lda_nil) rfl)) (t_ret (cv := cvI) (fun _ _ => rfl) (s_iload_n dX12_count_95 rfl rfl) dX12_count_96)), trivial⟩⟩⟩ (t_ret (cv := cvI) (fun _ _ => rfl) (s_iconst dX12_count_97 rfl) dX12_count_98) rfl))))
noncomputable def DX12_count : Fr → St → Option (Int32 × St) := M1 (fun f => (sI (sR fr0 0 (gR f 0)) 1 (gI f 1))) BX12_count
theorem kX12_count : SND yX12_count cX12_count 4 (some .int) 2 [(0, 2), (1, 0)] cvoI DX12_count := snd_I (nw := 2) (by decide) rfl rfl (fun _ _ => rfl) sBX12_count
theorem dX12_image_0 : decode cX12_image 0 = .ok (.aload_n 0, 1) := by decide +kernel
theorem dX12_image_1 : decode cX12_image 1 = .ok (.iconst 0, 1) := by decide +kernel
theorem dX12_image_2 : decode cX12_image 2 = .ok (.putfield 122, 3) := by decide +kernel
theorem dX12_image_5 : decode cX12_image 5 = .ok (.iload_n 1, 1) := by decide +kernel
theorem dX12_image_6 : decode cX12_image 6 = .ok (.i2l, 1) := by decide +kernel
theorem dX12_image_7 : decode cX12_image 7 = .ok (.lconst 0, 1) := by decide +kernel
theorem dX12_image_8 : decode cX12_image 8 = .ok (.ldc2_w 505, 3) := by decide +kernel
theorem dX12_image_11 : decode cX12_image 11 = .ok (.invokestatic 127, 3) := by decide +kernel
theorem dX12_image_14 : decode cX12_image 14 = .ok (.ifCond .ne 6, 3) := by decide +kernel
theorem dX12_image_17 : decode cX12_image 17 = .ok (.bipush (-2), 2) := by decide +kernel
theorem dX12_image_19 : decode cX12_image 19 = .ok (.ireturn, 1) := by decide +kernel
theorem dX12_image_20 : decode cX12_image 20 = .ok (.aload_n 0, 1) := by decide +kernel
theorem dX12_image_21 : decode cX12_image 21 = .ok (.iconst 0, 1) := by decide +kernel
theorem dX12_image_22 : decode cX12_image 22 = .ok (.iconst 1, 1) := by decide +kernel
theorem dX12_image_23 : decode cX12_image 23 = .ok (.iload_n 1, 1) := by decide +kernel
theorem dX12_image_24 : decode cX12_image 24 = .ok (.iadd, 1) := by decide +kernel
theorem dX12_image_25 : decode cX12_image 25 = .ok (.invokevirtual 285, 3) := by decide +kernel
theorem dX12_image_28 : decode cX12_image 28 = .ok (.aload_n 0, 1) := by decide +kernel
theorem dX12_image_29 : decode cX12_image 29 = .ok (.getfield 61, 3) := by decide +kernel
theorem dX12_image_32 : decode cX12_image 32 = .ok (.iload_n 1, 1) := by decide +kernel
theorem dX12_image_33 : decode cX12_image 33 = .ok (.iconst 1, 1) := by decide +kernel
theorem dX12_image_34 : decode cX12_image 34 = .ok (.bastore, 1) := by decide +kernel
theorem dX12_image_35 : decode cX12_image 35 = .ok (.iconst 0, 1) := by decide +kernel
theorem dX12_image_36 : decode cX12_image 36 = .ok (.ireturn, 1) := by decide +kernel
theorem mokX12_image : MOK yX12_image cX12_image 2 (some .int) 1 := ⟨w10_0, w1_13, ⟨by decide, by decide⟩, by decide +kernel, by decide⟩
abbrev miX12_image : MI := (yX12_image.cls, cX12_image, 2, 3, false)
noncomputable def BX12_image : Sm Int32 := (dSeq (dP (fI 12 0) (vR 0) (cI 0)) (dSeq (dIf (dNot (dCZ q_ne (dCall DX12_in (aL (aL (aL aN 0 (d1 o_i2l (vI 1))) 2 (cL 0)) 4 (cL 2))))) (dRet (cI (-2))) dSkip) (dSeq (dDo (dCallV 12 DX12_copyPort (aI (aI (aR aN 0 (vR 0)) 1 (cI 0)) 2 (d2 o_iadd (cI 1) (vI 1))))) (dSeq (d3 (stI 15 nZ) (dGR 12 26 (vR 0)) (vI 1) (cI 1)) (dRet (cI 0))))))
theorem sBX12_image : SS (cvoI, .ireturn) miX12_image [] [] [] [(0, 2), (1, 0)] [(0, 2), (1, 0)] 0 [] BX12_image := (t_sq (p1 := 5) (Γ' := [(0, 2), (1, 0)]) (t_pI ck12 0 (by decide) rfl (Or.inl rfl) (s_aload_n dX12_image_0 rfl rfl) (s_iconst dX12_image_1 rfl) dX12_image_2 w6_205 rfl) (t_sq (p1 := 20) (Γ' := [(0, 2), (1, 0)]) (t_if (pT := 17) (pF := 20) (X := [20]) (XA := []) (XB := [20]) (c_not (pT := 17) (pF := 20) (c_ne_ZJ (pT := 20) (s_of_xI (x_call (ts := [(0, 1), (2, 1), (4, 1)]) kX12_in mokX12_in w7_141 rfl rfl rfl (a_L (ts := [(0, 1), (2, 1)]) 4 (a_L (ts := [(0, 1)]) 2 (a_L (ts := []) 0 a_nil (s_i2l (s_iload_n dX12_image_5 rfl rfl) dX12_image_6) rfl) (s_lconst dX12_image_7 rfl) rfl) (s_ldc2 dX12_image_8 w10_1) rfl) dX12_image_11 w7_140)) dX12_image_14 rfl)) (t_ret (cv := cvI) (fun _ _ => rfl) (s_bipush dX12_image_17 rfl) dX12_image_19) (t_skip (ld_in rfl) rfl) lda_nil (lda_cons (ld_in rfl) lda_nil)) (t_sq (p1 := 28) (Γ' := [(0, 2), (1, 0)]) (t_do (x_callV (ts := [(0, 2), (1, 0), (2, 0)]) ck12 rfl kX12_copyPort mokX12_copyPort w8_47 ps4_15 rfl rfl rfl rfl (a_I (ts := [(0, 2), (1, 0)]) 2 (a_I (ts := [(0, 2)]) 1 (a_R (ts := []) 0 a_nil (s_aload_n dX12_image_20 rfl rfl) rfl) (s_iconst dX12_image_21 rfl) rfl) (s_iadd (s_iconst dX12_image_22 rfl) (s_iload_n dX12_image_23 rfl rfl) dX12_image_24) rfl) dX12_image_25 w8_45) rfl) (t_sq (p1 := 35) (Γ' := [(0, 2), (1, 0)]) (t_stZ (s_getR ck12 26 (by decide) rfl (s_aload_n dX12_image_28 rfl rfl) dX12_image_29 w6_231) (s_iload_n dX12_image_32 rfl rfl) (s_iconst dX12_image_33 rfl) dX12_image_34 rfl) (t_ret (cv := cvI) (fun _ _ => rfl) (s_iconst dX12_image_35 rfl) dX12_image_36)))))
noncomputable def DX12_image : Fr → St → Option (Int32 × St) := M1 (fun f => (sI (sR fr0 0 (gR f 0)) 1 (gI f 1))) BX12_image
theorem kX12_image : SND yX12_image cX12_image 2 (some .int) 3 [(0, 2), (1, 0)] cvoI DX12_image := snd_I (nw := 2) (by decide) rfl rfl (fun _ _ => rfl) sBX12_image
theorem dX12_back_0 : decode cX12_back 0 = .ok (.aload_n 0, 1) := by decide +kernel
theorem dX12_back_1 : decode cX12_back 1 = .ok (.iconst 0, 1) := by decide +kernel
theorem dX12_back_2 : decode cX12_back 2 = .ok (.putfield 122, 3) := by decide +kernel
theorem dX12_back_5 : decode cX12_back 5 = .ok (.iload_n 1, 1) := by decide +kernel
theorem dX12_back_6 : decode cX12_back 6 = .ok (.i2l, 1) := by decide +kernel
theorem dX12_back_7 : decode cX12_back 7 = .ok (.lconst 0, 1) := by decide +kernel
theorem dX12_back_8 : decode cX12_back 8 = .ok (.ldc2_w 505, 3) := by decide +kernel
theorem dX12_back_11 : decode cX12_back 11 = .ok (.invokestatic 127, 3) := by decide +kernel
theorem dX12_back_14 : decode cX12_back 14 = .ok (.ifCond .ne 6, 3) := by decide +kernel
theorem dX12_back_17 : decode cX12_back 17 = .ok (.bipush (-2), 2) := by decide +kernel
theorem dX12_back_19 : decode cX12_back 19 = .ok (.ireturn, 1) := by decide +kernel
theorem dX12_back_20 : decode cX12_back 20 = .ok (.aload_n 0, 1) := by decide +kernel
theorem dX12_back_21 : decode cX12_back 21 = .ok (.getfield 61, 3) := by decide +kernel
theorem dX12_back_24 : decode cX12_back 24 = .ok (.iload_n 1, 1) := by decide +kernel
theorem dX12_back_25 : decode cX12_back 25 = .ok (.baload, 1) := by decide +kernel
theorem dX12_back_26 : decode cX12_back 26 = .ok (.ifCond .ne 6, 3) := by decide +kernel
theorem dX12_back_29 : decode cX12_back 29 = .ok (.bipush (-6), 2) := by decide +kernel
theorem dX12_back_31 : decode cX12_back 31 = .ok (.ireturn, 1) := by decide +kernel
theorem dX12_back_32 : decode cX12_back 32 = .ok (.aload_n 0, 1) := by decide +kernel
theorem dX12_back_33 : decode cX12_back 33 = .ok (.iconst 1, 1) := by decide +kernel
theorem dX12_back_34 : decode cX12_back 34 = .ok (.iload_n 1, 1) := by decide +kernel
theorem dX12_back_35 : decode cX12_back 35 = .ok (.iadd, 1) := by decide +kernel
theorem dX12_back_36 : decode cX12_back 36 = .ok (.iconst 0, 1) := by decide +kernel
theorem dX12_back_37 : decode cX12_back 37 = .ok (.invokevirtual 285, 3) := by decide +kernel
theorem dX12_back_40 : decode cX12_back 40 = .ok (.iconst 0, 1) := by decide +kernel
theorem dX12_back_41 : decode cX12_back 41 = .ok (.ireturn, 1) := by decide +kernel
theorem mokX12_back : MOK yX12_back cX12_back 2 (some .int) 1 := ⟨w10_5, w1_13, ⟨by decide, by decide⟩, by decide +kernel, by decide⟩
abbrev miX12_back : MI := (yX12_back.cls, cX12_back, 2, 3, false)
noncomputable def BX12_back : Sm Int32 := (dSeq (dP (fI 12 0) (vR 0) (cI 0)) (dSeq (dIf (dNot (dCZ q_ne (dCall DX12_in (aL (aL (aL aN 0 (d1 o_i2l (vI 1))) 2 (cL 0)) 4 (cL 2))))) (dRet (cI (-2))) dSkip) (dSeq (dIf (dNot (dCZ q_ne (dAZ (dGR 12 26 (vR 0)) (vI 1)))) (dRet (cI (-6))) dSkip) (dSeq (dDo (dCallV 12 DX12_copyPort (aI (aI (aR aN 0 (vR 0)) 1 (d2 o_iadd (cI 1) (vI 1))) 2 (cI 0)))) (dRet (cI 0))))))
theorem sBX12_back : SS (cvoI, .ireturn) miX12_back [] [] [] [(0, 2), (1, 0)] [(0, 2), (1, 0)] 0 [] BX12_back := (t_sq (p1 := 5) (Γ' := [(0, 2), (1, 0)]) (t_pI ck12 0 (by decide) rfl (Or.inl rfl) (s_aload_n dX12_back_0 rfl rfl) (s_iconst dX12_back_1 rfl) dX12_back_2 w6_205 rfl) (t_sq (p1 := 20) (Γ' := [(0, 2), (1, 0)]) (t_if (pT := 17) (pF := 20) (X := [20]) (XA := []) (XB := [20]) (c_not (pT := 17) (pF := 20) (c_ne_ZJ (pT := 20) (s_of_xI (x_call (ts := [(0, 1), (2, 1), (4, 1)]) kX12_in mokX12_in w7_141 rfl rfl rfl (a_L (ts := [(0, 1), (2, 1)]) 4 (a_L (ts := [(0, 1)]) 2 (a_L (ts := []) 0 a_nil (s_i2l (s_iload_n dX12_back_5 rfl rfl) dX12_back_6) rfl) (s_lconst dX12_back_7 rfl) rfl) (s_ldc2 dX12_back_8 w10_1) rfl) dX12_back_11 w7_140)) dX12_back_14 rfl)) (t_ret (cv := cvI) (fun _ _ => rfl) (s_bipush dX12_back_17 rfl) dX12_back_19) (t_skip (ld_in rfl) rfl) lda_nil (lda_cons (ld_in rfl) lda_nil)) (t_sq (p1 := 32) (Γ' := [(0, 2), (1, 0)]) (t_if (pT := 29) (pF := 32) (X := [32]) (XA := []) (XB := [32]) (c_not (pT := 29) (pF := 32) (c_ne_ZJ (pT := 32) (s_dAZ (s_getR ck12 26 (by decide) rfl (s_aload_n dX12_back_20 rfl rfl) dX12_back_21 w6_231) (s_iload_n dX12_back_24 rfl rfl) dX12_back_25) dX12_back_26 rfl)) (t_ret (cv := cvI) (fun _ _ => rfl) (s_bipush dX12_back_29 rfl) dX12_back_31) (t_skip (ld_in rfl) rfl) lda_nil (lda_cons (ld_in rfl) lda_nil)) (t_sq (p1 := 40) (Γ' := [(0, 2), (1, 0)]) (t_do (x_callV (ts := [(0, 2), (1, 0), (2, 0)]) ck12 rfl kX12_copyPort mokX12_copyPort w8_47 ps4_15 rfl rfl rfl rfl (a_I (ts := [(0, 2), (1, 0)]) 2 (a_I (ts := [(0, 2)]) 1 (a_R (ts := []) 0 a_nil (s_aload_n dX12_back_32 rfl rfl) rfl) (s_iadd (s_iconst dX12_back_33 rfl) (s_iload_n dX12_back_34 rfl rfl) dX12_back_35) rfl) (s_iconst dX12_back_36 rfl) rfl) dX12_back_37 w8_45) rfl) (t_ret (cv := cvI) (fun _ _ => rfl) (s_iconst dX12_back_40 rfl) dX12_back_41)))))
noncomputable def DX12_back : Fr → St → Option (Int32 × St) := M1 (fun f => (sI (sR fr0 0 (gR f 0)) 1 (gI f 1))) BX12_back
theorem kX12_back : SND yX12_back cX12_back 2 (some .int) 3 [(0, 2), (1, 0)] cvoI DX12_back := snd_I (nw := 2) (by decide) rfl rfl (fun _ _ => rfl) sBX12_back
