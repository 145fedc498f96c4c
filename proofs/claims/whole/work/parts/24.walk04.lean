theorem dX8_numberAt_0 : decode cX8_numberAt 0 = .ok (.iload_n 1, 1) := by decide +kernel
theorem dX8_numberAt_1 : decode cX8_numberAt 1 = .ok (.bipush 60, 2) := by decide +kernel
theorem dX8_numberAt_3 : decode cX8_numberAt 3 = .ok (.imul, 1) := by decide +kernel
theorem dX8_numberAt_4 : decode cX8_numberAt 4 = .ok (.iload_n 2, 1) := by decide +kernel
theorem dX8_numberAt_5 : decode cX8_numberAt 5 = .ok (.iadd, 1) := by decide +kernel
theorem dX8_numberAt_6 : decode cX8_numberAt 6 = .ok (.istore_n 3, 1) := by decide +kernel
theorem dX8_numberAt_7 : decode cX8_numberAt 7 = .ok (.iload_n 3, 1) := by decide +kernel
theorem dX8_numberAt_8 : decode cX8_numberAt 8 = .ok (.ifCond .lt 21, 3) := by decide +kernel
theorem dX8_numberAt_11 : decode cX8_numberAt 11 = .ok (.iload_n 3, 1) := by decide +kernel
theorem dX8_numberAt_12 : decode cX8_numberAt 12 = .ok (.aload_n 0, 1) := by decide +kernel
theorem dX8_numberAt_13 : decode cX8_numberAt 13 = .ok (.getfield 18, 3) := by decide +kernel
theorem dX8_numberAt_16 : decode cX8_numberAt 16 = .ok (.arraylength, 1) := by decide +kernel
theorem dX8_numberAt_17 : decode cX8_numberAt 17 = .ok (.if_icmp .ge 12, 3) := by decide +kernel
theorem dX8_numberAt_20 : decode cX8_numberAt 20 = .ok (.aload_n 0, 1) := by decide +kernel
theorem dX8_numberAt_21 : decode cX8_numberAt 21 = .ok (.getfield 18, 3) := by decide +kernel
theorem dX8_numberAt_24 : decode cX8_numberAt 24 = .ok (.iload_n 3, 1) := by decide +kernel
theorem dX8_numberAt_25 : decode cX8_numberAt 25 = .ok (.laload, 1) := by decide +kernel
theorem dX8_numberAt_26 : decode cX8_numberAt 26 = .ok (.goto 4, 3) := by decide +kernel
theorem dX8_numberAt_29 : decode cX8_numberAt 29 = .ok (.lconst 0, 1) := by decide +kernel
theorem dX8_numberAt_30 : decode cX8_numberAt 30 = .ok (.lreturn, 1) := by decide +kernel
theorem mokX8_numberAt : MOK yX8_numberAt cX8_numberAt 4 (some .long) 2 := ⟨w5_214, w1_6, ⟨by decide, by decide⟩, by decide +kernel, by decide⟩
abbrev miX8_numberAt : MI := (yX8_numberAt.cls, cX8_numberAt, 4, 1, false)
noncomputable def BX8_numberAt : Sm Int64 := (dSeq (dSetI 3 (d2 o_iadd (d2 o_imul (vI 1) (cI 60)) (vI 2))) (dRet (dT (dAnd (dCZ q_ge (vI 3)) (dCI r_lt (vI 3) (dLen (dGR 8 2 (vR 0))))) (dAL (dGR 8 2 (vR 0)) (vI 3)) (cL 0))))
theorem sBX8_numberAt : SS (cvoL, .lreturn) miX8_numberAt [] [] [] [(0, 2), (1, 0), (2, 0)] [(0, 2), (1, 0), (2, 0)] 0 [] BX8_numberAt := (t_sq (p1 := 7) (Γ' := [(0, 2), (1, 0), (2, 0), (3, 0)]) (t_istore_n (s_iadd (s_imul (s_iload_n dX8_numberAt_0 rfl rfl) (s_bipush dX8_numberAt_1 rfl) dX8_numberAt_3) (s_iload_n dX8_numberAt_4 rfl rfl) dX8_numberAt_5) dX8_numberAt_6 rfl rfl rfl) (t_ret (cv := cvL) (fun _ _ => rfl) (s_T (pT := 20) (pF := 29) (p1 := 26) (pe := 30) (c_and (p1 := 11) (pT := 20) (pF := 29) (c_ge_ZF (pF := 29) (s_iload_n dX8_numberAt_7 rfl rfl) dX8_numberAt_8 rfl) (c_lt_F (pF := 29) (s_iload_n dX8_numberAt_11 rfl rfl) (s_len (s_getR ck8 2 (by decide) rfl (s_aload_n dX8_numberAt_12 rfl rfl) dX8_numberAt_13 w2_5) dX8_numberAt_16) dX8_numberAt_17 rfl)) (s_dAL (s_getR ck8 2 (by decide) rfl (s_aload_n dX8_numberAt_20 rfl rfl) dX8_numberAt_21 w2_5) (s_iload_n dX8_numberAt_24 rfl rfl) dX8_numberAt_25) (s_lconst dX8_numberAt_29 rfl) (ld_goto (y := 30) dX8_numberAt_26 rfl (ld_in rfl))) dX8_numberAt_30))
noncomputable def DX8_numberAt : Fr → St → Option (Int64 × St) := M1 (fun f => (sI (sI (sR fr0 0 (gR f 0)) 1 (gI f 1)) 2 (gI f 2))) BX8_numberAt
theorem kX8_numberAt : SND yX8_numberAt cX8_numberAt 4 (some .long) 1 [(0, 2), (1, 0), (2, 0)] cvoL DX8_numberAt := snd_L (nw := 3) (by decide) rfl rfl (fun _ _ => rfl) sBX8_numberAt
theorem dX8_sizeOf_0 : decode cX8_sizeOf 0 = .ok (.aload_n 0, 1) := by decide +kernel
theorem dX8_sizeOf_1 : decode cX8_sizeOf 1 = .ok (.getfield 15, 3) := by decide +kernel
theorem dX8_sizeOf_4 : decode cX8_sizeOf 4 = .ok (.iload_n 1, 1) := by decide +kernel
theorem dX8_sizeOf_5 : decode cX8_sizeOf 5 = .ok (.invokestatic 22, 3) := by decide +kernel
theorem dX8_sizeOf_8 : decode cX8_sizeOf 8 = .ok (.ireturn, 1) := by decide +kernel
theorem mokX8_sizeOf : MOK yX8_sizeOf cX8_sizeOf 2 (some .int) 1 := ⟨w5_210, w1_6, ⟨by decide, by decide⟩, by decide +kernel, by decide⟩
abbrev miX8_sizeOf : MI := (yX8_sizeOf.cls, cX8_sizeOf, 2, 2, false)
noncomputable def BX8_sizeOf : Sm Int32 := (dRet (dCall DX11_cell (aI (aR aN 0 (dGR 8 1 (vR 0))) 1 (vI 1))))
theorem sBX8_sizeOf : SS (cvoI, .ireturn) miX8_sizeOf [] [] [] [(0, 2), (1, 0)] [(0, 2), (1, 0)] 0 [] BX8_sizeOf := (t_ret (cv := cvI) (fun _ _ => rfl) (s_of_xI (x_callN (ts := [(0, 2), (1, 0)]) kX11_cell mokX11_cell w3_229 rfl rfl rfl (a_I (ts := [(0, 2)]) 1 (a_R (ts := []) 0 a_nil (s_getR ck8 1 (by decide) rfl (s_aload_n dX8_sizeOf_0 rfl rfl) dX8_sizeOf_1 w2_4) rfl) (s_iload_n dX8_sizeOf_4 rfl rfl) rfl) dX8_sizeOf_5 nb27)) dX8_sizeOf_8)
noncomputable def DX8_sizeOf : Fr → St → Option (Int32 × St) := M1 (fun f => (sI (sR fr0 0 (gR f 0)) 1 (gI f 1))) BX8_sizeOf
theorem kX8_sizeOf : SND yX8_sizeOf cX8_sizeOf 2 (some .int) 2 [(0, 2), (1, 0)] cvoI DX8_sizeOf := snd_I (nw := 2) (by decide) rfl rfl (fun _ _ => rfl) sBX8_sizeOf
theorem dX7_isAsSeen_0 : decode cX7_isAsSeen 0 = .ok (.iconst 0, 1) := by decide +kernel
theorem dX7_isAsSeen_1 : decode cX7_isAsSeen 1 = .ok (.istore 5, 2) := by decide +kernel
theorem dX7_isAsSeen_3 : decode cX7_isAsSeen 3 = .ok (.iload 5, 2) := by decide +kernel
theorem dX7_isAsSeen_5 : decode cX7_isAsSeen 5 = .ok (.aload_n 1, 1) := by decide +kernel
theorem dX7_isAsSeen_6 : decode cX7_isAsSeen 6 = .ok (.iload_n 2, 1) := by decide +kernel
theorem dX7_isAsSeen_7 : decode cX7_isAsSeen 7 = .ok (.invokevirtual 29, 3) := by decide +kernel
theorem dX7_isAsSeen_10 : decode cX7_isAsSeen 10 = .ok (.if_icmp .ge 43, 3) := by decide +kernel
theorem dX7_isAsSeen_13 : decode cX7_isAsSeen 13 = .ok (.aload_n 1, 1) := by decide +kernel
theorem dX7_isAsSeen_14 : decode cX7_isAsSeen 14 = .ok (.iload_n 2, 1) := by decide +kernel
theorem dX7_isAsSeen_15 : decode cX7_isAsSeen 15 = .ok (.iload 5, 2) := by decide +kernel
theorem dX7_isAsSeen_17 : decode cX7_isAsSeen 17 = .ok (.invokevirtual 33, 3) := by decide +kernel
theorem dX7_isAsSeen_20 : decode cX7_isAsSeen 20 = .ok (.l2i, 1) := by decide +kernel
theorem dX7_isAsSeen_21 : decode cX7_isAsSeen 21 = .ok (.istore 6, 2) := by decide +kernel
theorem dX7_isAsSeen_23 : decode cX7_isAsSeen 23 = .ok (.aload 4, 2) := by decide +kernel
theorem dX7_isAsSeen_25 : decode cX7_isAsSeen 25 = .ok (.iload_n 3, 1) := by decide +kernel
theorem dX7_isAsSeen_26 : decode cX7_isAsSeen 26 = .ok (.iload 6, 2) := by decide +kernel
theorem dX7_isAsSeen_28 : decode cX7_isAsSeen 28 = .ok (.invokevirtual 68, 3) := by decide +kernel
theorem dX7_isAsSeen_31 : decode cX7_isAsSeen 31 = .ok (.i2l, 1) := by decide +kernel
theorem dX7_isAsSeen_32 : decode cX7_isAsSeen 32 = .ok (.aload_n 1, 1) := by decide +kernel
theorem dX7_isAsSeen_33 : decode cX7_isAsSeen 33 = .ok (.iload_n 2, 1) := by decide +kernel
theorem dX7_isAsSeen_34 : decode cX7_isAsSeen 34 = .ok (.iload 5, 2) := by decide +kernel
theorem dX7_isAsSeen_36 : decode cX7_isAsSeen 36 = .ok (.iconst 1, 1) := by decide +kernel
theorem dX7_isAsSeen_37 : decode cX7_isAsSeen 37 = .ok (.iadd, 1) := by decide +kernel
theorem dX7_isAsSeen_38 : decode cX7_isAsSeen 38 = .ok (.invokevirtual 33, 3) := by decide +kernel
theorem dX7_isAsSeen_41 : decode cX7_isAsSeen 41 = .ok (.lcmp, 1) := by decide +kernel
theorem dX7_isAsSeen_42 : decode cX7_isAsSeen 42 = .ok (.ifCond .eq 5, 3) := by decide +kernel
theorem dX7_isAsSeen_45 : decode cX7_isAsSeen 45 = .ok (.iconst 0, 1) := by decide +kernel
theorem dX7_isAsSeen_46 : decode cX7_isAsSeen 46 = .ok (.ireturn, 1) := by decide +kernel
theorem dX7_isAsSeen_47 : decode cX7_isAsSeen 47 = .ok (.iinc 5 2, 3) := by decide +kernel
theorem dX7_isAsSeen_50 : decode cX7_isAsSeen 50 = .ok (.goto (-47), 3) := by decide +kernel
theorem dX7_isAsSeen_53 : decode cX7_isAsSeen 53 = .ok (.iconst 1, 1) := by decide +kernel
theorem dX7_isAsSeen_54 : decode cX7_isAsSeen 54 = .ok (.ireturn, 1) := by decide +kernel
theorem mokX7_isAsSeen : MOK yX7_isAsSeen cX7_isAsSeen 7 (some .boolean) 4 := ⟨w5_226, w1_12, ⟨by decide, by decide⟩, by decide +kernel, by decide⟩
abbrev miX7_isAsSeen : MI := (yX7_isAsSeen.cls, cX7_isAsSeen, 7, 3, false)
noncomputable def LX7_isAsSeen_1 : Sm Int32 := dLoop (fun f => (sI (sR (sI (sI (sR (sR fr0 0 (gR f 0)) 1 (gR f 1)) 2 (gI f 2)) 3 (gI f 3)) 4 (gR f 4)) 5 (gI f 5))) (dCI r_lt (vI 5) (dCallV 8 DX8_sizeOf (aI (aR aN 0 (vR 1)) 1 (vI 2)))) (dSeq (dSetI 6 (d1 o_l2i (dCallV 8 DX8_numberAt (aI (aI (aR aN 0 (vR 1)) 1 (vI 2)) 2 (vI 5))))) (dIf (dCZ q_ne (d2 o_lcmp (d1 o_i2l (dCallV 3 DX3_slateOn (aI (aI (aR aN 0 (vR 4)) 1 (vI 3)) 2 (vI 6)))) (dCallV 8 DX8_numberAt (aI (aI (aR aN 0 (vR 1)) 1 (vI 2)) 2 (d2 o_iadd (vI 5) (cI 1)))))) (dRet (cI 0)) dSkip)) (dInc 5 2)
theorem sLX7_isAsSeen_1 {ΓL : Gm} {PB PK : List Nat} : SS (cvoI, .ireturn) miX7_isAsSeen ΓL PB PK [(0, 2), (1, 2), (2, 0), (3, 0), (4, 2), (5, 0)] [(0, 2), (1, 2), (2, 0), (3, 0), (4, 2), (5, 0)] 3 [53] LX7_isAsSeen_1 := t_loop (pT := 13) (pF := 53) (pu := 47) (PB' := []) (PK' := []) (XB := [47]) (XU := [50]) (fun _ _ => rfl) rfl (c_lt_F (pF := 53) (s_iload dX7_isAsSeen_3 rfl) (s_of_xI (x_callV (ts := [(0, 2), (1, 0)]) ck8 rfl kX8_sizeOf mokX8_sizeOf w5_208 w5_209 rfl rfl rfl rfl (a_I (ts := [(0, 2)]) 1 (a_R (ts := []) 0 a_nil (s_aload_n dX7_isAsSeen_5 rfl rfl) rfl) (s_iload_n dX7_isAsSeen_6 rfl rfl) rfl) dX7_isAsSeen_7 w5_207)) dX7_isAsSeen_10 rfl) (t_sq (p1 := 23) (Γ' := [(0, 2), (1, 2), (2, 0), (3, 0), (4, 2), (5, 0), (6, 0)]) (t_istore (s_l2i (s_of_xL (x_callV (ts := [(0, 2), (1, 0), (2, 0)]) ck8 rfl kX8_numberAt mokX8_numberAt w5_212 w5_213 rfl rfl rfl rfl (a_I (ts := [(0, 2), (1, 0)]) 2 (a_I (ts := [(0, 2)]) 1 (a_R (ts := []) 0 a_nil (s_aload_n dX7_isAsSeen_13 rfl rfl) rfl) (s_iload_n dX7_isAsSeen_14 rfl rfl) rfl) (s_iload dX7_isAsSeen_15 rfl) rfl) dX7_isAsSeen_17 w5_211)) dX7_isAsSeen_20) dX7_isAsSeen_21 rfl rfl) (t_if (pT := 45) (pF := 47) (X := [47]) (XA := []) (XB := [47]) (c_ne_ZF (pF := 47) (s_lcmp (s_i2l (s_of_xI (x_callV (ts := [(0, 2), (1, 0), (2, 0)]) ck3 rfl kX3_slateOn mokX3_slateOn w4_159 w4_160 rfl rfl rfl rfl (a_I (ts := [(0, 2), (1, 0)]) 2 (a_I (ts := [(0, 2)]) 1 (a_R (ts := []) 0 a_nil (s_aload dX7_isAsSeen_23 rfl) rfl) (s_iload_n dX7_isAsSeen_25 rfl rfl) rfl) (s_iload dX7_isAsSeen_26 rfl) rfl) dX7_isAsSeen_28 w5_221)) dX7_isAsSeen_31) (s_of_xL (x_callV (ts := [(0, 2), (1, 0), (2, 0)]) ck8 rfl kX8_numberAt mokX8_numberAt w5_212 w5_213 rfl rfl rfl rfl (a_I (ts := [(0, 2), (1, 0)]) 2 (a_I (ts := [(0, 2)]) 1 (a_R (ts := []) 0 a_nil (s_aload_n dX7_isAsSeen_32 rfl rfl) rfl) (s_iload_n dX7_isAsSeen_33 rfl rfl) rfl) (s_iadd (s_iload dX7_isAsSeen_34 rfl) (s_iconst dX7_isAsSeen_36 rfl) dX7_isAsSeen_37) rfl) dX7_isAsSeen_38 w5_211)) dX7_isAsSeen_41) dX7_isAsSeen_42 rfl) (t_ret (cv := cvI) (fun _ _ => rfl) (s_iconst dX7_isAsSeen_45 rfl) dX7_isAsSeen_46) (t_skip (ld_in rfl) rfl) lda_nil (lda_cons (ld_in rfl) lda_nil))) (t_iinc dX7_isAsSeen_47 rfl rfl rfl rfl) (lda_cons (ld_in rfl) lda_nil) lda_nil (lda_cons (ld_goto (y := 3) dX7_isAsSeen_50 rfl (ld_in rfl)) lda_nil) (ld_in rfl) lda_nil
noncomputable def BX7_isAsSeen : Sm Int32 := (dSeq (dSeq (dSetI 5 (cI 0)) LX7_isAsSeen_1) (dRet (cI 1)))
theorem sBX7_isAsSeen : SS (cvoI, .ireturn) miX7_isAsSeen [] [] [] [(0, 2), (1, 2), (2, 0), (3, 0), (4, 2)] [(0, 2), (1, 2), (2, 0), (3, 0), (4, 2)] 0 [] BX7_isAsSeen := (t_sq (p1 := 53) (Γ' := [(0, 2), (1, 2), (2, 0), (3, 0), (4, 2)]) (t_sq (p1 := 3) (Γ' := [(0, 2), (1, 2), (2, 0), (3, 0), (4, 2), (5, 0)]) (t_istore (s_iconst dX7_isAsSeen_0 rfl) dX7_isAsSeen_1 rfl rfl) (tn_to (Γ' := [(0, 2), (1, 2), (2, 0), (3, 0), (4, 2), (5, 0)]) (XA := [53]) sLX7_isAsSeen_1 (lda_cons (ld_in rfl) lda_nil) rfl)) (t_ret (cv := cvI) (fun _ _ => rfl) (s_iconst dX7_isAsSeen_53 rfl) dX7_isAsSeen_54))
noncomputable def DX7_isAsSeen : Fr → St → Option (Int32 × St) := MZ (fun f => (sR (sI (sI (sR (sR fr0 0 (gR f 0)) 1 (gR f 1)) 2 (gI f 2)) 3 (gI f 3)) 4 (gR f 4))) BX7_isAsSeen
theorem kX7_isAsSeen : SND yX7_isAsSeen cX7_isAsSeen 7 (some .boolean) 3 [(0, 2), (1, 2), (2, 0), (3, 0), (4, 2)] cvoI DX7_isAsSeen := snd_Z (nw := 5) (by decide) rfl rfl (fun _ _ => rfl) sBX7_isAsSeen
theorem dX7_findFirsts_0 : decode cX7_findFirsts 0 = .ok (.aload_n 0, 1) := by decide +kernel
theorem dX7_findFirsts_1 : decode cX7_findFirsts 1 = .ok (.iconst 0, 1) := by decide +kernel
theorem dX7_findFirsts_2 : decode cX7_findFirsts 2 = .ok (.putfield 44, 3) := by decide +kernel
theorem dX7_findFirsts_5 : decode cX7_findFirsts 5 = .ok (.iconst 0, 1) := by decide +kernel
theorem dX7_findFirsts_6 : decode cX7_findFirsts 6 = .ok (.istore 6, 2) := by decide +kernel
theorem dX7_findFirsts_8 : decode cX7_findFirsts 8 = .ok (.iload 6, 2) := by decide +kernel
theorem dX7_findFirsts_10 : decode cX7_findFirsts 10 = .ok (.aload_n 1, 1) := by decide +kernel
theorem dX7_findFirsts_11 : decode cX7_findFirsts 11 = .ok (.getfield 41, 3) := by decide +kernel
theorem dX7_findFirsts_14 : decode cX7_findFirsts 14 = .ok (.if_icmp .ge 112, 3) := by decide +kernel
theorem dX7_findFirsts_17 : decode cX7_findFirsts 17 = .ok (.aload 5, 2) := by decide +kernel
theorem dX7_findFirsts_19 : decode cX7_findFirsts 19 = .ok (.getfield 47, 3) := by decide +kernel
theorem dX7_findFirsts_22 : decode cX7_findFirsts 22 = .ok (.aload_n 1, 1) := by decide +kernel
theorem dX7_findFirsts_23 : decode cX7_findFirsts 23 = .ok (.invokevirtual 53, 3) := by decide +kernel
theorem dX7_findFirsts_26 : decode cX7_findFirsts 26 = .ok (.aload 5, 2) := by decide +kernel
theorem dX7_findFirsts_28 : decode cX7_findFirsts 28 = .ok (.getfield 47, 3) := by decide +kernel
theorem dX7_findFirsts_31 : decode cX7_findFirsts 31 = .ok (.iload 4, 2) := by decide +kernel
theorem dX7_findFirsts_33 : decode cX7_findFirsts 33 = .ok (.putfield 59, 3) := by decide +kernel
theorem dX7_findFirsts_36 : decode cX7_findFirsts 36 = .ok (.aload 5, 2) := by decide +kernel
theorem dX7_findFirsts_38 : decode cX7_findFirsts 38 = .ok (.getfield 47, 3) := by decide +kernel
theorem dX7_findFirsts_41 : decode cX7_findFirsts 41 = .ok (.iload 6, 2) := by decide +kernel
theorem dX7_findFirsts_43 : decode cX7_findFirsts 43 = .ok (.putfield 62, 3) := by decide +kernel
theorem dX7_findFirsts_46 : decode cX7_findFirsts 46 = .ok (.aload 5, 2) := by decide +kernel
theorem dX7_findFirsts_48 : decode cX7_findFirsts 48 = .ok (.aload_n 1, 1) := by decide +kernel
theorem dX7_findFirsts_49 : decode cX7_findFirsts 49 = .ok (.invokevirtual 65, 3) := by decide +kernel
theorem dX7_findFirsts_52 : decode cX7_findFirsts 52 = .ok (.iconst 0, 1) := by decide +kernel
theorem dX7_findFirsts_53 : decode cX7_findFirsts 53 = .ok (.istore 7, 2) := by decide +kernel
theorem dX7_findFirsts_55 : decode cX7_findFirsts 55 = .ok (.iload 7, 2) := by decide +kernel
theorem dX7_findFirsts_57 : decode cX7_findFirsts 57 = .ok (.aload_n 1, 1) := by decide +kernel
theorem dX7_findFirsts_58 : decode cX7_findFirsts 58 = .ok (.getfield 37, 3) := by decide +kernel
theorem dX7_findFirsts_61 : decode cX7_findFirsts 61 = .ok (.if_icmp .gt 33, 3) := by decide +kernel
theorem dX7_findFirsts_64 : decode cX7_findFirsts 64 = .ok (.aload_n 0, 1) := by decide +kernel
theorem dX7_findFirsts_65 : decode cX7_findFirsts 65 = .ok (.getfield 11, 3) := by decide +kernel
theorem dX7_findFirsts_68 : decode cX7_findFirsts 68 = .ok (.iload 6, 2) := by decide +kernel
theorem dX7_findFirsts_70 : decode cX7_findFirsts 70 = .ok (.bipush 13, 2) := by decide +kernel
theorem dX7_findFirsts_72 : decode cX7_findFirsts 72 = .ok (.imul, 1) := by decide +kernel
theorem dX7_findFirsts_73 : decode cX7_findFirsts 73 = .ok (.iload 7, 2) := by decide +kernel
theorem dX7_findFirsts_75 : decode cX7_findFirsts 75 = .ok (.iadd, 1) := by decide +kernel
theorem dX7_findFirsts_76 : decode cX7_findFirsts 76 = .ok (.aload 5, 2) := by decide +kernel
theorem dX7_findFirsts_78 : decode cX7_findFirsts 78 = .ok (.iload 4, 2) := by decide +kernel
theorem dX7_findFirsts_80 : decode cX7_findFirsts 80 = .ok (.iload 7, 2) := by decide +kernel
theorem dX7_findFirsts_82 : decode cX7_findFirsts 82 = .ok (.invokevirtual 68, 3) := by decide +kernel
theorem dX7_findFirsts_85 : decode cX7_findFirsts 85 = .ok (.invokestatic 72, 3) := by decide +kernel
theorem dX7_findFirsts_88 : decode cX7_findFirsts 88 = .ok (.iinc 7 1, 3) := by decide +kernel
theorem dX7_findFirsts_91 : decode cX7_findFirsts 91 = .ok (.goto (-36), 3) := by decide +kernel
theorem dX7_findFirsts_94 : decode cX7_findFirsts 94 = .ok (.aload_n 0, 1) := by decide +kernel
theorem dX7_findFirsts_95 : decode cX7_findFirsts 95 = .ok (.aload_n 2, 1) := by decide +kernel
theorem dX7_findFirsts_96 : decode cX7_findFirsts 96 = .ok (.iload_n 3, 1) := by decide +kernel
theorem dX7_findFirsts_97 : decode cX7_findFirsts 97 = .ok (.iload 4, 2) := by decide +kernel
theorem dX7_findFirsts_99 : decode cX7_findFirsts 99 = .ok (.aload 5, 2) := by decide +kernel
theorem dX7_findFirsts_101 : decode cX7_findFirsts 101 = .ok (.invokevirtual 76, 3) := by decide +kernel
theorem dX7_findFirsts_104 : decode cX7_findFirsts 104 = .ok (.ifCond .eq 16, 3) := by decide +kernel
theorem dX7_findFirsts_107 : decode cX7_findFirsts 107 = .ok (.aload_n 0, 1) := by decide +kernel
theorem dX7_findFirsts_108 : decode cX7_findFirsts 108 = .ok (.dup, 1) := by decide +kernel
theorem dX7_findFirsts_109 : decode cX7_findFirsts 109 = .ok (.getfield 44, 3) := by decide +kernel
theorem dX7_findFirsts_112 : decode cX7_findFirsts 112 = .ok (.iconst 1, 1) := by decide +kernel
theorem dX7_findFirsts_113 : decode cX7_findFirsts 113 = .ok (.iload 6, 2) := by decide +kernel
theorem dX7_findFirsts_115 : decode cX7_findFirsts 115 = .ok (.ishl, 1) := by decide +kernel
theorem dX7_findFirsts_116 : decode cX7_findFirsts 116 = .ok (.ior, 1) := by decide +kernel
theorem dX7_findFirsts_117 : decode cX7_findFirsts 117 = .ok (.putfield 44, 3) := by decide +kernel
theorem dX7_findFirsts_120 : decode cX7_findFirsts 120 = .ok (.iinc 6 1, 3) := by decide +kernel
theorem dX7_findFirsts_123 : decode cX7_findFirsts 123 = .ok (.goto (-115), 3) := by decide +kernel
theorem dX7_findFirsts_126 : decode cX7_findFirsts 126 = .ok (.return_, 1) := by decide +kernel
theorem mokX7_findFirsts : MOK yX7_findFirsts cX7_findFirsts 8 none 5 := ⟨w5_218, w1_12, ⟨by decide, by decide⟩, by decide +kernel, by decide⟩
abbrev miX7_findFirsts : MI := (yX7_findFirsts.cls, cX7_findFirsts, 8, 7, false)
noncomputable def LX7_findFirsts_1 : Sm Unit := dLoop (fun f => (sI (sI (sR (sI (sI (sR (sR (sR fr0 0 (gR f 0)) 1 (gR f 1)) 2 (gR f 2)) 3 (gI f 3)) 4 (gI f 4)) 5 (gR f 5)) 6 (gI f 6)) 7 (gI f 7))) (dCI r_le (vI 7) (dGI 5 1 (vR 1))) (dDo (dCall DX11_put (aI (aI (aR aN 0 (dGR 7 1 (vR 0))) 1 (d2 o_iadd (d2 o_imul (vI 6) (cI 13)) (vI 7))) 2 (dCallV 3 DX3_slateOn (aI (aI (aR aN 0 (vR 5)) 1 (vI 4)) 2 (vI 7)))))) (dInc 7 1)
theorem sLX7_findFirsts_1 {ΓL : Gm} {PB PK : List Nat} : SS (cvoV, .return_) miX7_findFirsts ΓL PB PK [(0, 2), (1, 2), (2, 2), (3, 0), (4, 0), (5, 2), (6, 0), (7, 0)] [(0, 2), (1, 2), (2, 2), (3, 0), (4, 0), (5, 2), (6, 0), (7, 0)] 55 [94] LX7_findFirsts_1 := t_loop (pT := 64) (pF := 94) (pu := 88) (PB' := []) (PK' := []) (XB := [88]) (XU := [91]) (fun _ _ => rfl) rfl (c_le_F (pF := 94) (s_iload dX7_findFirsts_55 rfl) (s_getI ck5 1 (by decide) rfl (s_aload_n dX7_findFirsts_57 rfl rfl) dX7_findFirsts_58 w1_135) dX7_findFirsts_61 rfl) (t_do (x_callN (ts := [(0, 2), (1, 0), (2, 0)]) kX11_put mokX11_put w3_161 rfl rfl rfl (a_I (ts := [(0, 2), (1, 0)]) 2 (a_I (ts := [(0, 2)]) 1 (a_R (ts := []) 0 a_nil (s_getR ck7 1 (by decide) rfl (s_aload_n dX7_findFirsts_64 rfl rfl) dX7_findFirsts_65 w2_212) rfl) (s_iadd (s_imul (s_iload dX7_findFirsts_68 rfl) (s_bipush dX7_findFirsts_70 rfl) dX7_findFirsts_72) (s_iload dX7_findFirsts_73 rfl) dX7_findFirsts_75) rfl) (s_of_xI (x_callV (ts := [(0, 2), (1, 0), (2, 0)]) ck3 rfl kX3_slateOn mokX3_slateOn w4_159 w4_160 rfl rfl rfl rfl (a_I (ts := [(0, 2), (1, 0)]) 2 (a_I (ts := [(0, 2)]) 1 (a_R (ts := []) 0 a_nil (s_aload dX7_findFirsts_76 rfl) rfl) (s_iload dX7_findFirsts_78 rfl) rfl) (s_iload dX7_findFirsts_80 rfl) rfl) dX7_findFirsts_82 w5_221)) rfl) dX7_findFirsts_85 nb28) rfl) (t_iinc dX7_findFirsts_88 rfl rfl rfl rfl) (lda_cons (ld_in rfl) lda_nil) lda_nil (lda_cons (ld_goto (y := 55) dX7_findFirsts_91 rfl (ld_in rfl)) lda_nil) (ld_in rfl) lda_nil
noncomputable def LX7_findFirsts_2 : Sm Unit := dLoop (fun f => (sI (sR (sI (sI (sR (sR (sR fr0 0 (gR f 0)) 1 (gR f 1)) 2 (gR f 2)) 3 (gI f 3)) 4 (gI f 4)) 5 (gR f 5)) 6 (gI f 6))) (dCI r_lt (vI 6) (dGI 5 4 (vR 1))) (dSeq (dDo (dCallV 2 DX2_setAsTold (aR (aR aN 0 (dGR 3 1 (vR 5))) 1 (vR 1)))) (dSeq (dP (fI 2 4) (dGR 3 1 (vR 5)) (vI 4)) (dSeq (dP (fI 2 5) (dGR 3 1 (vR 5)) (vI 6)) (dSeq (dDo (dCallV 3 DX3_fill (aR (aR aN 0 (vR 5)) 1 (vR 1)))) (dSeq (dSeq (dSetI 7 (cI 0)) LX7_findFirsts_1) (dIf (dCZ q_ne (dCallV 7 DX7_isAsSeen (aR (aI (aI (aR (aR aN 0 (vR 0)) 1 (vR 2)) 2 (vI 3)) 3 (vI 4)) 4 (vR 5)))) (dUF 7 0 o_ior (vR 0) (d2 o_ishl (cI 1) (vI 6))) dSkip)))))) (dInc 6 1)
theorem sLX7_findFirsts_2 {ΓL : Gm} {PB PK : List Nat} : SS (cvoV, .return_) miX7_findFirsts ΓL PB PK [(0, 2), (1, 2), (2, 2), (3, 0), (4, 0), (5, 2), (6, 0)] [(0, 2), (1, 2), (2, 2), (3, 0), (4, 0), (5, 2), (6, 0)] 8 [126] LX7_findFirsts_2 := t_loop (pT := 17) (pF := 126) (pu := 120) (PB' := []) (PK' := []) (XB := [120]) (XU := [123]) (fun _ _ => rfl) rfl (c_lt_F (pF := 126) (s_iload dX7_findFirsts_8 rfl) (s_getI ck5 4 (by decide) rfl (s_aload_n dX7_findFirsts_10 rfl rfl) dX7_findFirsts_11 w1_150) dX7_findFirsts_14 rfl) (t_sq (p1 := 26) (Γ' := [(0, 2), (1, 2), (2, 2), (3, 0), (4, 0), (5, 2), (6, 0)]) (t_do (x_callV (ts := [(0, 2), (1, 2)]) ck2 rfl kX2_setAsTold mokX2_setAsTold w4_84 w4_85 rfl rfl rfl rfl (a_R (ts := [(0, 2)]) 1 (a_R (ts := []) 0 a_nil (s_getR ck3 1 (by decide) rfl (s_aload dX7_findFirsts_17 rfl) dX7_findFirsts_19 w2_90) rfl) (s_aload_n dX7_findFirsts_22 rfl rfl) rfl) dX7_findFirsts_23 w5_219) rfl) (t_sq (p1 := 36) (Γ' := [(0, 2), (1, 2), (2, 2), (3, 0), (4, 0), (5, 2), (6, 0)]) (t_pI ck2 4 (by decide) rfl (Or.inl rfl) (s_getR ck3 1 (by decide) rfl (s_aload dX7_findFirsts_26 rfl) dX7_findFirsts_28 w2_90) (s_iload dX7_findFirsts_31 rfl) dX7_findFirsts_33 w2_36 rfl) (t_sq (p1 := 46) (Γ' := [(0, 2), (1, 2), (2, 2), (3, 0), (4, 0), (5, 2), (6, 0)]) (t_pI ck2 5 (by decide) rfl (Or.inl rfl) (s_getR ck3 1 (by decide) rfl (s_aload dX7_findFirsts_36 rfl) dX7_findFirsts_38 w2_90) (s_iload dX7_findFirsts_41 rfl) dX7_findFirsts_43 w2_38 rfl) (t_sq (p1 := 52) (Γ' := [(0, 2), (1, 2), (2, 2), (3, 0), (4, 0), (5, 2), (6, 0)]) (t_do (x_callV (ts := [(0, 2), (1, 2)]) ck3 rfl kX3_fill mokX3_fill w4_88 w4_89 rfl rfl rfl rfl (a_R (ts := [(0, 2)]) 1 (a_R (ts := []) 0 a_nil (s_aload dX7_findFirsts_46 rfl) rfl) (s_aload_n dX7_findFirsts_48 rfl rfl) rfl) dX7_findFirsts_49 w5_220) rfl) (t_sq (p1 := 94) (Γ' := [(0, 2), (1, 2), (2, 2), (3, 0), (4, 0), (5, 2), (6, 0)]) (t_sq (p1 := 55) (Γ' := [(0, 2), (1, 2), (2, 2), (3, 0), (4, 0), (5, 2), (6, 0), (7, 0)]) (t_istore (s_iconst dX7_findFirsts_52 rfl) dX7_findFirsts_53 rfl rfl) (tn_to (Γ' := [(0, 2), (1, 2), (2, 2), (3, 0), (4, 0), (5, 2), (6, 0), (7, 0)]) (XA := [94]) sLX7_findFirsts_1 (lda_cons (ld_in rfl) lda_nil) rfl)) (t_if (pT := 107) (pF := 120) (X := [120]) (XA := [120]) (XB := [120]) (c_ne_ZF (pF := 120) (s_of_xI (x_callV (ts := [(0, 2), (1, 2), (2, 0), (3, 0), (4, 2)]) ck7 rfl kX7_isAsSeen mokX7_isAsSeen w5_224 w5_225 rfl rfl rfl rfl (a_R (ts := [(0, 2), (1, 2), (2, 0), (3, 0)]) 4 (a_I (ts := [(0, 2), (1, 2), (2, 0)]) 3 (a_I (ts := [(0, 2), (1, 2)]) 2 (a_R (ts := [(0, 2)]) 1 (a_R (ts := []) 0 a_nil (s_aload_n dX7_findFirsts_94 rfl rfl) rfl) (s_aload_n dX7_findFirsts_95 rfl rfl) rfl) (s_iload_n dX7_findFirsts_96 rfl rfl) rfl) (s_iload dX7_findFirsts_97 rfl) rfl) (s_aload dX7_findFirsts_99 rfl) rfl) dX7_findFirsts_101 w5_223)) dX7_findFirsts_104 rfl) (t_UF ck7 0 (by decide) rfl (Or.inl rfl) (s_aload_n dX7_findFirsts_107 rfl rfl) dX7_findFirsts_108 dX7_findFirsts_109 w2_210 (s_ishl (s_iconst dX7_findFirsts_112 rfl) (s_iload dX7_findFirsts_113 rfl) dX7_findFirsts_115) (fun _ _ _ _ => rulI fun a b K => lv_ior a b dX7_findFirsts_116 K) dX7_findFirsts_117 w2_210 rfl) (t_skip (ld_in rfl) rfl) (lda_cons (ld_in rfl) lda_nil) (lda_cons (ld_in rfl) lda_nil))))))) (t_iinc dX7_findFirsts_120 rfl rfl rfl rfl) (lda_cons (ld_in rfl) lda_nil) lda_nil (lda_cons (ld_goto (y := 8) dX7_findFirsts_123 rfl (ld_in rfl)) lda_nil) (ld_in rfl) lda_nil
noncomputable def BX7_findFirsts : Sm Unit := (dSeq (dP (fI 7 0) (vR 0) (cI 0)) (dSeq (dSeq (dSetI 6 (cI 0)) LX7_findFirsts_2) dRet0))
theorem sBX7_findFirsts : SS (cvoV, .return_) miX7_findFirsts [] [] [] [(0, 2), (1, 2), (2, 2), (3, 0), (4, 0), (5, 2)] [(0, 2), (1, 2), (2, 2), (3, 0), (4, 0), (5, 2)] 0 [] BX7_findFirsts := (t_sq (p1 := 5) (Γ' := [(0, 2), (1, 2), (2, 2), (3, 0), (4, 0), (5, 2)]) (t_pI ck7 0 (by decide) rfl (Or.inl rfl) (s_aload_n dX7_findFirsts_0 rfl rfl) (s_iconst dX7_findFirsts_1 rfl) dX7_findFirsts_2 w2_210 rfl) (t_sq (p1 := 126) (Γ' := [(0, 2), (1, 2), (2, 2), (3, 0), (4, 0), (5, 2)]) (t_sq (p1 := 8) (Γ' := [(0, 2), (1, 2), (2, 2), (3, 0), (4, 0), (5, 2), (6, 0)]) (t_istore (s_iconst dX7_findFirsts_5 rfl) dX7_findFirsts_6 rfl rfl) (tn_to (Γ' := [(0, 2), (1, 2), (2, 2), (3, 0), (4, 0), (5, 2), (6, 0)]) (XA := [126]) sLX7_findFirsts_2 (lda_cons (ld_in rfl) lda_nil) rfl)) (t_ret0 (fun _ _ => rfl) dX7_findFirsts_126)))
noncomputable def DX7_findFirsts : Fr → St → Option (Unit × St) := M1 (fun f => (sR (sI (sI (sR (sR (sR fr0 0 (gR f 0)) 1 (gR f 1)) 2 (gR f 2)) 3 (gI f 3)) 4 (gI f 4)) 5 (gR f 5))) BX7_findFirsts
theorem kX7_findFirsts : SND yX7_findFirsts cX7_findFirsts 8 none 7 [(0, 2), (1, 2), (2, 2), (3, 0), (4, 0), (5, 2)] cvoV DX7_findFirsts := snd_V (nw := 6) (by decide) (fun z => by cases z) rfl rfl (fun _ _ => rfl) sBX7_findFirsts
theorem dX8_hasRow_0 : decode cX8_hasRow 0 = .ok (.aload_n 0, 1) := by decide +kernel
theorem dX8_hasRow_1 : decode cX8_hasRow 1 = .ok (.getfield 11, 3) := by decide +kernel
theorem dX8_hasRow_4 : decode cX8_hasRow 4 = .ok (.iload_n 1, 1) := by decide +kernel
theorem dX8_hasRow_5 : decode cX8_hasRow 5 = .ok (.invokestatic 22, 3) := by decide +kernel
theorem dX8_hasRow_8 : decode cX8_hasRow 8 = .ok (.ifCond .eq 7, 3) := by decide +kernel
theorem dX8_hasRow_11 : decode cX8_hasRow 11 = .ok (.iconst 1, 1) := by decide +kernel
theorem dX8_hasRow_12 : decode cX8_hasRow 12 = .ok (.goto 4, 3) := by decide +kernel
theorem dX8_hasRow_15 : decode cX8_hasRow 15 = .ok (.iconst 0, 1) := by decide +kernel
theorem dX8_hasRow_16 : decode cX8_hasRow 16 = .ok (.ireturn, 1) := by decide +kernel
theorem mokX8_hasRow : MOK yX8_hasRow cX8_hasRow 2 (some .boolean) 1 := ⟨w5_205, w1_6, ⟨by decide, by decide⟩, by decide +kernel, by decide⟩
abbrev miX8_hasRow : MI := (yX8_hasRow.cls, cX8_hasRow, 2, 2, false)
noncomputable def BX8_hasRow : Sm Int32 := (dRet (dB (dCZ q_ne (dCall DX11_cell (aI (aR aN 0 (dGR 8 0 (vR 0))) 1 (vI 1))))))
theorem sBX8_hasRow : SS (cvoI, .ireturn) miX8_hasRow [] [] [] [(0, 2), (1, 0)] [(0, 2), (1, 0)] 0 [] BX8_hasRow := (t_ret (cv := cvI) (fun _ _ => rfl) (s_B (pT := 11) (pF := 15) (pe := 16) (c_ne_ZF (pF := 15) (s_of_xI (x_callN (ts := [(0, 2), (1, 0)]) kX11_cell mokX11_cell w3_229 rfl rfl rfl (a_I (ts := [(0, 2)]) 1 (a_R (ts := []) 0 a_nil (s_getR ck8 0 (by decide) rfl (s_aload_n dX8_hasRow_0 rfl rfl) dX8_hasRow_1 w2_3) rfl) (s_iload_n dX8_hasRow_4 rfl rfl) rfl) dX8_hasRow_5 nb27)) dX8_hasRow_8 rfl) dX8_hasRow_11 dX8_hasRow_12 rfl dX8_hasRow_15 rfl) dX8_hasRow_16)
noncomputable def DX8_hasRow : Fr → St → Option (Int32 × St) := MZ (fun f => (sI (sR fr0 0 (gR f 0)) 1 (gI f 1))) BX8_hasRow
theorem kX8_hasRow : SND yX8_hasRow cX8_hasRow 2 (some .boolean) 2 [(0, 2), (1, 0)] cvoI DX8_hasRow := snd_Z (nw := 2) (by decide) rfl rfl (fun _ _ => rfl) sBX8_hasRow
theorem dX8_isSlot_0 : decode cX8_isSlot 0 = .ok (.iload_n 1, 1) := by decide +kernel
theorem dX8_isSlot_1 : decode cX8_isSlot 1 = .ok (.ifCond .lt 12, 3) := by decide +kernel
theorem dX8_isSlot_4 : decode cX8_isSlot 4 = .ok (.iload_n 1, 1) := by decide +kernel
theorem dX8_isSlot_5 : decode cX8_isSlot 5 = .ok (.iconst 4, 1) := by decide +kernel
theorem dX8_isSlot_6 : decode cX8_isSlot 6 = .ok (.if_icmp .ge 7, 3) := by decide +kernel
theorem dX8_isSlot_9 : decode cX8_isSlot 9 = .ok (.iconst 1, 1) := by decide +kernel
theorem dX8_isSlot_10 : decode cX8_isSlot 10 = .ok (.goto 4, 3) := by decide +kernel
theorem dX8_isSlot_13 : decode cX8_isSlot 13 = .ok (.iconst 0, 1) := by decide +kernel
theorem dX8_isSlot_14 : decode cX8_isSlot 14 = .ok (.ireturn, 1) := by decide +kernel
theorem mokX8_isSlot : MOK yX8_isSlot cX8_isSlot 2 (some .boolean) 1 := ⟨w5_200, w1_6, ⟨by decide, by decide⟩, by decide +kernel, by decide⟩
abbrev miX8_isSlot : MI := (yX8_isSlot.cls, cX8_isSlot, 2, 1, false)
noncomputable def BX8_isSlot : Sm Int32 := (dRet (dB (dAnd (dCZ q_ge (vI 1)) (dCI r_lt (vI 1) (cI 4)))))
theorem sBX8_isSlot : SS (cvoI, .ireturn) miX8_isSlot [] [] [] [(0, 2), (1, 0)] [(0, 2), (1, 0)] 0 [] BX8_isSlot := (t_ret (cv := cvI) (fun _ _ => rfl) (s_B (pT := 9) (pF := 13) (pe := 14) (c_and (p1 := 4) (pT := 9) (pF := 13) (c_ge_ZF (pF := 13) (s_iload_n dX8_isSlot_0 rfl rfl) dX8_isSlot_1 rfl) (c_lt_F (pF := 13) (s_iload_n dX8_isSlot_4 rfl rfl) (s_iconst dX8_isSlot_5 rfl) dX8_isSlot_6 rfl)) dX8_isSlot_9 dX8_isSlot_10 rfl dX8_isSlot_13 rfl) dX8_isSlot_14)
noncomputable def DX8_isSlot : Fr → St → Option (Int32 × St) := MZ (fun f => (sI (sR fr0 0 (gR f 0)) 1 (gI f 1))) BX8_isSlot
theorem kX8_isSlot : SND yX8_isSlot cX8_isSlot 2 (some .boolean) 1 [(0, 2), (1, 0)] cvoI DX8_isSlot := snd_Z (nw := 2) (by decide) rfl rfl (fun _ _ => rfl) sBX8_isSlot
theorem dX7_wrongRow_0 : decode cX7_wrongRow 0 = .ok (.aload_n 2, 1) := by decide +kernel
theorem dX7_wrongRow_1 : decode cX7_wrongRow 1 = .ok (.iload_n 3, 1) := by decide +kernel
theorem dX7_wrongRow_2 : decode cX7_wrongRow 2 = .ok (.invokevirtual 15, 3) := by decide +kernel
theorem dX7_wrongRow_5 : decode cX7_wrongRow 5 = .ok (.ifCond .eq 12, 3) := by decide +kernel
theorem dX7_wrongRow_8 : decode cX7_wrongRow 8 = .ok (.aload_n 1, 1) := by decide +kernel
theorem dX7_wrongRow_9 : decode cX7_wrongRow 9 = .ok (.iload 4, 2) := by decide +kernel
theorem dX7_wrongRow_11 : decode cX7_wrongRow 11 = .ok (.invokevirtual 21, 3) := by decide +kernel
theorem dX7_wrongRow_14 : decode cX7_wrongRow 14 = .ok (.ifCond .ne 6, 3) := by decide +kernel
theorem dX7_wrongRow_17 : decode cX7_wrongRow 17 = .ok (.bipush (-2), 2) := by decide +kernel
theorem dX7_wrongRow_19 : decode cX7_wrongRow 19 = .ok (.ireturn, 1) := by decide +kernel
theorem dX7_wrongRow_20 : decode cX7_wrongRow 20 = .ok (.aload_n 2, 1) := by decide +kernel
theorem dX7_wrongRow_21 : decode cX7_wrongRow 21 = .ok (.iload_n 3, 1) := by decide +kernel
theorem dX7_wrongRow_22 : decode cX7_wrongRow 22 = .ok (.invokevirtual 26, 3) := by decide +kernel
theorem dX7_wrongRow_25 : decode cX7_wrongRow 25 = .ok (.ifCond .ne 6, 3) := by decide +kernel
theorem dX7_wrongRow_28 : decode cX7_wrongRow 28 = .ok (.bipush (-6), 2) := by decide +kernel
theorem dX7_wrongRow_30 : decode cX7_wrongRow 30 = .ok (.ireturn, 1) := by decide +kernel
theorem dX7_wrongRow_31 : decode cX7_wrongRow 31 = .ok (.aload_n 2, 1) := by decide +kernel
theorem dX7_wrongRow_32 : decode cX7_wrongRow 32 = .ok (.iload_n 3, 1) := by decide +kernel
theorem dX7_wrongRow_33 : decode cX7_wrongRow 33 = .ok (.invokevirtual 29, 3) := by decide +kernel
theorem dX7_wrongRow_36 : decode cX7_wrongRow 36 = .ok (.istore 5, 2) := by decide +kernel
theorem dX7_wrongRow_38 : decode cX7_wrongRow 38 = .ok (.iload 5, 2) := by decide +kernel
theorem dX7_wrongRow_40 : decode cX7_wrongRow 40 = .ok (.iconst 2, 1) := by decide +kernel
theorem dX7_wrongRow_41 : decode cX7_wrongRow 41 = .ok (.irem, 1) := by decide +kernel
theorem dX7_wrongRow_42 : decode cX7_wrongRow 42 = .ok (.ifCond .eq 6, 3) := by decide +kernel
theorem dX7_wrongRow_45 : decode cX7_wrongRow 45 = .ok (.bipush (-2), 2) := by decide +kernel
theorem dX7_wrongRow_47 : decode cX7_wrongRow 47 = .ok (.ireturn, 1) := by decide +kernel
theorem dX7_wrongRow_48 : decode cX7_wrongRow 48 = .ok (.iconst 0, 1) := by decide +kernel
theorem dX7_wrongRow_49 : decode cX7_wrongRow 49 = .ok (.istore 6, 2) := by decide +kernel
theorem dX7_wrongRow_51 : decode cX7_wrongRow 51 = .ok (.iload 6, 2) := by decide +kernel
theorem dX7_wrongRow_53 : decode cX7_wrongRow 53 = .ok (.iload 5, 2) := by decide +kernel
theorem dX7_wrongRow_55 : decode cX7_wrongRow 55 = .ok (.if_icmp .ge 68, 3) := by decide +kernel
theorem dX7_wrongRow_58 : decode cX7_wrongRow 58 = .ok (.aload_n 2, 1) := by decide +kernel
theorem dX7_wrongRow_59 : decode cX7_wrongRow 59 = .ok (.iload_n 3, 1) := by decide +kernel
theorem dX7_wrongRow_60 : decode cX7_wrongRow 60 = .ok (.iload 6, 2) := by decide +kernel
theorem dX7_wrongRow_62 : decode cX7_wrongRow 62 = .ok (.invokevirtual 33, 3) := by decide +kernel
theorem dX7_wrongRow_65 : decode cX7_wrongRow 65 = .ok (.lstore 7, 2) := by decide +kernel
theorem dX7_wrongRow_67 : decode cX7_wrongRow 67 = .ok (.aload_n 2, 1) := by decide +kernel
theorem dX7_wrongRow_68 : decode cX7_wrongRow 68 = .ok (.iload_n 3, 1) := by decide +kernel
theorem dX7_wrongRow_69 : decode cX7_wrongRow 69 = .ok (.iload 6, 2) := by decide +kernel
theorem dX7_wrongRow_71 : decode cX7_wrongRow 71 = .ok (.iconst 1, 1) := by decide +kernel
theorem dX7_wrongRow_72 : decode cX7_wrongRow 72 = .ok (.iadd, 1) := by decide +kernel
theorem dX7_wrongRow_73 : decode cX7_wrongRow 73 = .ok (.invokevirtual 33, 3) := by decide +kernel
theorem dX7_wrongRow_76 : decode cX7_wrongRow 76 = .ok (.lstore 9, 2) := by decide +kernel
theorem dX7_wrongRow_78 : decode cX7_wrongRow 78 = .ok (.lload 7, 2) := by decide +kernel
theorem dX7_wrongRow_80 : decode cX7_wrongRow 80 = .ok (.lconst 0, 1) := by decide +kernel
theorem dX7_wrongRow_81 : decode cX7_wrongRow 81 = .ok (.lcmp, 1) := by decide +kernel
theorem dX7_wrongRow_82 : decode cX7_wrongRow 82 = .ok (.ifCond .lt 32, 3) := by decide +kernel
theorem dX7_wrongRow_85 : decode cX7_wrongRow 85 = .ok (.lload 7, 2) := by decide +kernel
theorem dX7_wrongRow_87 : decode cX7_wrongRow 87 = .ok (.aload_n 1, 1) := by decide +kernel
theorem dX7_wrongRow_88 : decode cX7_wrongRow 88 = .ok (.getfield 37, 3) := by decide +kernel
theorem dX7_wrongRow_91 : decode cX7_wrongRow 91 = .ok (.i2l, 1) := by decide +kernel
theorem dX7_wrongRow_92 : decode cX7_wrongRow 92 = .ok (.lcmp, 1) := by decide +kernel
theorem dX7_wrongRow_93 : decode cX7_wrongRow 93 = .ok (.ifCond .gt 21, 3) := by decide +kernel
theorem dX7_wrongRow_96 : decode cX7_wrongRow 96 = .ok (.lload 9, 2) := by decide +kernel
theorem dX7_wrongRow_98 : decode cX7_wrongRow 98 = .ok (.lconst 0, 1) := by decide +kernel
theorem dX7_wrongRow_99 : decode cX7_wrongRow 99 = .ok (.lcmp, 1) := by decide +kernel
theorem dX7_wrongRow_100 : decode cX7_wrongRow 100 = .ok (.ifCond .lt 14, 3) := by decide +kernel
theorem dX7_wrongRow_103 : decode cX7_wrongRow 103 = .ok (.lload 9, 2) := by decide +kernel
theorem dX7_wrongRow_105 : decode cX7_wrongRow 105 = .ok (.aload_n 1, 1) := by decide +kernel
theorem dX7_wrongRow_106 : decode cX7_wrongRow 106 = .ok (.getfield 41, 3) := by decide +kernel
theorem dX7_wrongRow_109 : decode cX7_wrongRow 109 = .ok (.i2l, 1) := by decide +kernel
theorem dX7_wrongRow_110 : decode cX7_wrongRow 110 = .ok (.lcmp, 1) := by decide +kernel
theorem dX7_wrongRow_111 : decode cX7_wrongRow 111 = .ok (.ifCond .lt 6, 3) := by decide +kernel
theorem dX7_wrongRow_114 : decode cX7_wrongRow 114 = .ok (.bipush (-2), 2) := by decide +kernel
theorem dX7_wrongRow_116 : decode cX7_wrongRow 116 = .ok (.ireturn, 1) := by decide +kernel
theorem dX7_wrongRow_117 : decode cX7_wrongRow 117 = .ok (.iinc 6 2, 3) := by decide +kernel
theorem dX7_wrongRow_120 : decode cX7_wrongRow 120 = .ok (.goto (-69), 3) := by decide +kernel
theorem dX7_wrongRow_123 : decode cX7_wrongRow 123 = .ok (.iconst 0, 1) := by decide +kernel
theorem dX7_wrongRow_124 : decode cX7_wrongRow 124 = .ok (.ireturn, 1) := by decide +kernel
theorem mokX7_wrongRow : MOK yX7_wrongRow cX7_wrongRow 11 (some .int) 4 := ⟨w5_196, w1_12, ⟨by decide, by decide⟩, by decide +kernel, by decide⟩
abbrev miX7_wrongRow : MI := (yX7_wrongRow.cls, cX7_wrongRow, 11, 3, false)
noncomputable def LX7_wrongRow_1 : Sm Int32 := dLoop (fun f => (sI (sI (sI (sI (sR (sR (sR fr0 0 (gR f 0)) 1 (gR f 1)) 2 (gR f 2)) 3 (gI f 3)) 4 (gI f 4)) 5 (gI f 5)) 6 (gI f 6))) (dCI r_lt (vI 6) (vI 5)) (dSeq (dSetL 7 (dCallV 8 DX8_numberAt (aI (aI (aR aN 0 (vR 2)) 1 (vI 3)) 2 (vI 6)))) (dSeq (dSetL 9 (dCallV 8 DX8_numberAt (aI (aI (aR aN 0 (vR 2)) 1 (vI 3)) 2 (d2 o_iadd (vI 6) (cI 1))))) (dIf (dOr (dOr (dOr (dCZ q_lt (d2 o_lcmp (vL 7) (cL 0))) (dCZ q_gt (d2 o_lcmp (vL 7) (d1 o_i2l (dGI 5 1 (vR 1)))))) (dCZ q_lt (d2 o_lcmp (vL 9) (cL 0)))) (dCZ q_ge (d2 o_lcmp (vL 9) (d1 o_i2l (dGI 5 4 (vR 1)))))) (dRet (cI (-2))) dSkip))) (dInc 6 2)
theorem sLX7_wrongRow_1 {ΓL : Gm} {PB PK : List Nat} : SS (cvoI, .ireturn) miX7_wrongRow ΓL PB PK [(0, 2), (1, 2), (2, 2), (3, 0), (4, 0), (5, 0), (6, 0)] [(0, 2), (1, 2), (2, 2), (3, 0), (4, 0), (5, 0), (6, 0)] 51 [123] LX7_wrongRow_1 := t_loop (pT := 58) (pF := 123) (pu := 117) (PB' := []) (PK' := []) (XB := [117]) (XU := [120]) (fun _ _ => rfl) rfl (c_lt_F (pF := 123) (s_iload dX7_wrongRow_51 rfl) (s_iload dX7_wrongRow_53 rfl) dX7_wrongRow_55 rfl) (t_sq (p1 := 67) (Γ' := [(0, 2), (1, 2), (2, 2), (3, 0), (4, 0), (5, 0), (6, 0), (7, 1)]) (t_lstore (s_of_xL (x_callV (ts := [(0, 2), (1, 0), (2, 0)]) ck8 rfl kX8_numberAt mokX8_numberAt w5_212 w5_213 rfl rfl rfl rfl (a_I (ts := [(0, 2), (1, 0)]) 2 (a_I (ts := [(0, 2)]) 1 (a_R (ts := []) 0 a_nil (s_aload_n dX7_wrongRow_58 rfl rfl) rfl) (s_iload_n dX7_wrongRow_59 rfl rfl) rfl) (s_iload dX7_wrongRow_60 rfl) rfl) dX7_wrongRow_62 w5_211)) dX7_wrongRow_65 rfl rfl) (t_sq (p1 := 78) (Γ' := [(0, 2), (1, 2), (2, 2), (3, 0), (4, 0), (5, 0), (6, 0), (7, 1), (9, 1)]) (t_lstore (s_of_xL (x_callV (ts := [(0, 2), (1, 0), (2, 0)]) ck8 rfl kX8_numberAt mokX8_numberAt w5_212 w5_213 rfl rfl rfl rfl (a_I (ts := [(0, 2), (1, 0)]) 2 (a_I (ts := [(0, 2)]) 1 (a_R (ts := []) 0 a_nil (s_aload_n dX7_wrongRow_67 rfl rfl) rfl) (s_iload_n dX7_wrongRow_68 rfl rfl) rfl) (s_iadd (s_iload dX7_wrongRow_69 rfl) (s_iconst dX7_wrongRow_71 rfl) dX7_wrongRow_72) rfl) dX7_wrongRow_73 w5_211)) dX7_wrongRow_76 rfl rfl) (t_if (pT := 114) (pF := 117) (X := [117]) (XA := []) (XB := [117]) (c_or (p1 := 103) (pT := 114) (pF := 117) (c_or (p1 := 96) (pT := 114) (pF := 103) (c_or (p1 := 85) (pT := 114) (pF := 96) (c_lt_ZJ (pT := 114) (s_lcmp (s_lload dX7_wrongRow_78 rfl) (s_lconst dX7_wrongRow_80 rfl) dX7_wrongRow_81) dX7_wrongRow_82 rfl) (c_gt_ZJ (pT := 114) (s_lcmp (s_lload dX7_wrongRow_85 rfl) (s_i2l (s_getI ck5 1 (by decide) rfl (s_aload_n dX7_wrongRow_87 rfl rfl) dX7_wrongRow_88 w1_135) dX7_wrongRow_91) dX7_wrongRow_92) dX7_wrongRow_93 rfl)) (c_lt_ZJ (pT := 114) (s_lcmp (s_lload dX7_wrongRow_96 rfl) (s_lconst dX7_wrongRow_98 rfl) dX7_wrongRow_99) dX7_wrongRow_100 rfl)) (c_ge_ZF (pF := 117) (s_lcmp (s_lload dX7_wrongRow_103 rfl) (s_i2l (s_getI ck5 4 (by decide) rfl (s_aload_n dX7_wrongRow_105 rfl rfl) dX7_wrongRow_106 w1_150) dX7_wrongRow_109) dX7_wrongRow_110) dX7_wrongRow_111 rfl)) (t_ret (cv := cvI) (fun _ _ => rfl) (s_bipush dX7_wrongRow_114 rfl) dX7_wrongRow_116) (t_skip (ld_in rfl) rfl) lda_nil (lda_cons (ld_in rfl) lda_nil)))) (t_iinc dX7_wrongRow_117 rfl rfl rfl rfl) (lda_cons (ld_in rfl) lda_nil) lda_nil (lda_cons (ld_goto (y := 51) dX7_wrongRow_120 rfl (ld_in rfl)) lda_nil) (ld_in rfl) lda_nil
noncomputable def BX7_wrongRow : Sm Int32 := (dSeq (dIf (dOr (dNot (dCZ q_ne (dCallV 8 DX8_isSlot (aI (aR aN 0 (vR 2)) 1 (vI 3))))) (dNot (dCZ q_ne (dCallV 5 DX5_isSlate (aI (aR aN 0 (vR 1)) 1 (vI 4)))))) (dRet (cI (-2))) dSkip) (dSeq (dIf (dNot (dCZ q_ne (dCallV 8 DX8_hasRow (aI (aR aN 0 (vR 2)) 1 (vI 3))))) (dRet (cI (-6))) dSkip) (dSeq (dSetI 5 (dCallV 8 DX8_sizeOf (aI (aR aN 0 (vR 2)) 1 (vI 3)))) (dSeq (dIf (dCZ q_ne (d2z o_irem (vI 5) (cI 2))) (dRet (cI (-2))) dSkip) (dSeq (dSeq (dSetI 6 (cI 0)) LX7_wrongRow_1) (dRet (cI 0)))))))
theorem sBX7_wrongRow : SS (cvoI, .ireturn) miX7_wrongRow [] [] [] [(0, 2), (1, 2), (2, 2), (3, 0), (4, 0)] [(0, 2), (1, 2), (2, 2), (3, 0), (4, 0)] 0 [] BX7_wrongRow := (t_sq (p1 := 20) (Γ' := [(0, 2), (1, 2), (2, 2), (3, 0), (4, 0)]) (t_if (pT := 17) (pF := 20) (X := [20]) (XA := []) (XB := [20]) (c_or (p1 := 8) (pT := 17) (pF := 20) (c_not (pT := 17) (pF := 8) (c_ne_ZF (pF := 17) (s_of_xI (x_callV (ts := [(0, 2), (1, 0)]) ck8 rfl kX8_isSlot mokX8_isSlot w5_198 w5_199 rfl rfl rfl rfl (a_I (ts := [(0, 2)]) 1 (a_R (ts := []) 0 a_nil (s_aload_n dX7_wrongRow_0 rfl rfl) rfl) (s_iload_n dX7_wrongRow_1 rfl rfl) rfl) dX7_wrongRow_2 w5_197)) dX7_wrongRow_5 rfl)) (c_not (pT := 17) (pF := 20) (c_ne_ZJ (pT := 20) (s_of_xI (x_callV (ts := [(0, 2), (1, 0)]) ck5 rfl kX5_isSlate mokX5_isSlate w4_7 w4_8 rfl rfl rfl rfl (a_I (ts := [(0, 2)]) 1 (a_R (ts := []) 0 a_nil (s_aload_n dX7_wrongRow_8 rfl rfl) rfl) (s_iload dX7_wrongRow_9 rfl) rfl) dX7_wrongRow_11 w5_201)) dX7_wrongRow_14 rfl))) (t_ret (cv := cvI) (fun _ _ => rfl) (s_bipush dX7_wrongRow_17 rfl) dX7_wrongRow_19) (t_skip (ld_in rfl) rfl) lda_nil (lda_cons (ld_in rfl) lda_nil)) (t_sq (p1 := 31) (Γ' := [(0, 2), (1, 2), (2, 2), (3, 0), (4, 0)]) (t_if (pT := 28) (pF := 31) (X := [31]) (XA := []) (XB := [31]) (c_not (pT := 28) (pF := 31) (c_ne_ZJ (pT := 31) (s_of_xI (x_callV (ts := [(0, 2), (1, 0)]) ck8 rfl kX8_hasRow mokX8_hasRow w5_203 w5_204 rfl rfl rfl rfl (a_I (ts := [(0, 2)]) 1 (a_R (ts := []) 0 a_nil (s_aload_n dX7_wrongRow_20 rfl rfl) rfl) (s_iload_n dX7_wrongRow_21 rfl rfl) rfl) dX7_wrongRow_22 w5_202)) dX7_wrongRow_25 rfl)) (t_ret (cv := cvI) (fun _ _ => rfl) (s_bipush dX7_wrongRow_28 rfl) dX7_wrongRow_30) (t_skip (ld_in rfl) rfl) lda_nil (lda_cons (ld_in rfl) lda_nil)) (t_sq (p1 := 38) (Γ' := [(0, 2), (1, 2), (2, 2), (3, 0), (4, 0), (5, 0)]) (t_istore (s_of_xI (x_callV (ts := [(0, 2), (1, 0)]) ck8 rfl kX8_sizeOf mokX8_sizeOf w5_208 w5_209 rfl rfl rfl rfl (a_I (ts := [(0, 2)]) 1 (a_R (ts := []) 0 a_nil (s_aload_n dX7_wrongRow_31 rfl rfl) rfl) (s_iload_n dX7_wrongRow_32 rfl rfl) rfl) dX7_wrongRow_33 w5_207)) dX7_wrongRow_36 rfl rfl) (t_sq (p1 := 48) (Γ' := [(0, 2), (1, 2), (2, 2), (3, 0), (4, 0), (5, 0)]) (t_if (pT := 45) (pF := 48) (X := [48]) (XA := []) (XB := [48]) (c_ne_ZF (pF := 48) (s_irem (s_iload dX7_wrongRow_38 rfl) (s_iconst dX7_wrongRow_40 rfl) dX7_wrongRow_41) dX7_wrongRow_42 rfl) (t_ret (cv := cvI) (fun _ _ => rfl) (s_bipush dX7_wrongRow_45 rfl) dX7_wrongRow_47) (t_skip (ld_in rfl) rfl) lda_nil (lda_cons (ld_in rfl) lda_nil)) (t_sq (p1 := 123) (Γ' := [(0, 2), (1, 2), (2, 2), (3, 0), (4, 0), (5, 0)]) (t_sq (p1 := 51) (Γ' := [(0, 2), (1, 2), (2, 2), (3, 0), (4, 0), (5, 0), (6, 0)]) (t_istore (s_iconst dX7_wrongRow_48 rfl) dX7_wrongRow_49 rfl rfl) (tn_to (Γ' := [(0, 2), (1, 2), (2, 2), (3, 0), (4, 0), (5, 0), (6, 0)]) (XA := [123]) sLX7_wrongRow_1 (lda_cons (ld_in rfl) lda_nil) rfl)) (t_ret (cv := cvI) (fun _ _ => rfl) (s_iconst dX7_wrongRow_123 rfl) dX7_wrongRow_124))))))
noncomputable def DX7_wrongRow : Fr → St → Option (Int32 × St) := M1 (fun f => (sI (sI (sR (sR (sR fr0 0 (gR f 0)) 1 (gR f 1)) 2 (gR f 2)) 3 (gI f 3)) 4 (gI f 4))) BX7_wrongRow
theorem kX7_wrongRow : SND yX7_wrongRow cX7_wrongRow 11 (some .int) 3 [(0, 2), (1, 2), (2, 2), (3, 0), (4, 0)] cvoI DX7_wrongRow := snd_I (nw := 5) (by decide) rfl rfl (fun _ _ => rfl) sBX7_wrongRow
theorem dX11_firsts_0 : decode cX11_firsts 0 = .ok (.aload_n 0, 1) := by decide +kernel
theorem dX11_firsts_1 : decode cX11_firsts 1 = .ok (.getfield 78, 3) := by decide +kernel
theorem dX11_firsts_4 : decode cX11_firsts 4 = .ok (.aload_n 0, 1) := by decide +kernel
theorem dX11_firsts_5 : decode cX11_firsts 5 = .ok (.getfield 26, 3) := by decide +kernel
theorem dX11_firsts_8 : decode cX11_firsts 8 = .ok (.aload_n 0, 1) := by decide +kernel
theorem dX11_firsts_9 : decode cX11_firsts 9 = .ok (.getfield 40, 3) := by decide +kernel
theorem dX11_firsts_12 : decode cX11_firsts 12 = .ok (.iload_n 1, 1) := by decide +kernel
theorem dX11_firsts_13 : decode cX11_firsts 13 = .ok (.iload_n 2, 1) := by decide +kernel
theorem dX11_firsts_14 : decode cX11_firsts 14 = .ok (.invokevirtual 314, 3) := by decide +kernel
theorem dX11_firsts_17 : decode cX11_firsts 17 = .ok (.istore_n 3, 1) := by decide +kernel
theorem dX11_firsts_18 : decode cX11_firsts 18 = .ok (.iload_n 3, 1) := by decide +kernel
theorem dX11_firsts_19 : decode cX11_firsts 19 = .ok (.ifCond .eq 5, 3) := by decide +kernel
theorem dX11_firsts_22 : decode cX11_firsts 22 = .ok (.iload_n 3, 1) := by decide +kernel
theorem dX11_firsts_23 : decode cX11_firsts 23 = .ok (.ireturn, 1) := by decide +kernel
theorem dX11_firsts_24 : decode cX11_firsts 24 = .ok (.aload_n 0, 1) := by decide +kernel
theorem dX11_firsts_25 : decode cX11_firsts 25 = .ok (.getfield 78, 3) := by decide +kernel
theorem dX11_firsts_28 : decode cX11_firsts 28 = .ok (.aload_n 0, 1) := by decide +kernel
theorem dX11_firsts_29 : decode cX11_firsts 29 = .ok (.getfield 26, 3) := by decide +kernel
theorem dX11_firsts_32 : decode cX11_firsts 32 = .ok (.aload_n 0, 1) := by decide +kernel
theorem dX11_firsts_33 : decode cX11_firsts 33 = .ok (.getfield 40, 3) := by decide +kernel
theorem dX11_firsts_36 : decode cX11_firsts 36 = .ok (.iload_n 1, 1) := by decide +kernel
theorem dX11_firsts_37 : decode cX11_firsts 37 = .ok (.iload_n 2, 1) := by decide +kernel
theorem dX11_firsts_38 : decode cX11_firsts 38 = .ok (.aload_n 0, 1) := by decide +kernel
theorem dX11_firsts_39 : decode cX11_firsts 39 = .ok (.getfield 51, 3) := by decide +kernel
theorem dX11_firsts_42 : decode cX11_firsts 42 = .ok (.invokevirtual 318, 3) := by decide +kernel
theorem dX11_firsts_45 : decode cX11_firsts 45 = .ok (.aload_n 0, 1) := by decide +kernel
theorem dX11_firsts_46 : decode cX11_firsts 46 = .ok (.getfield 78, 3) := by decide +kernel
theorem dX11_firsts_49 : decode cX11_firsts 49 = .ok (.getfield 322, 3) := by decide +kernel
theorem dX11_firsts_52 : decode cX11_firsts 52 = .ok (.ireturn, 1) := by decide +kernel
theorem mokX11_firsts : MOK yX11_firsts cX11_firsts 4 (some .int) 2 := ⟨w5_192, w1_1, ⟨by decide, by decide⟩, by decide +kernel, by decide⟩
abbrev miX11_firsts : MI := (yX11_firsts.cls, cX11_firsts, 4, 8, false)
noncomputable def BX11_firsts : Sm Int32 := (dSeq (dSetI 3 (dCallV 7 DX7_wrongRow (aI (aI (aR (aR (aR aN 0 (dGR 11 11 (vR 0))) 1 (dGR 11 2 (vR 0))) 2 (dGR 11 5 (vR 0))) 3 (vI 1)) 4 (vI 2)))) (dSeq (dIf (dCZ q_ne (vI 3)) (dRet (vI 3)) dSkip) (dSeq (dDo (dCallV 7 DX7_findFirsts (aR (aI (aI (aR (aR (aR aN 0 (dGR 11 11 (vR 0))) 1 (dGR 11 2 (vR 0))) 2 (dGR 11 5 (vR 0))) 3 (vI 1)) 4 (vI 2)) 5 (dGR 11 7 (vR 0))))) (dRet (dGI 7 0 (dGR 11 11 (vR 0)))))))
theorem sBX11_firsts : SS (cvoI, .ireturn) miX11_firsts [] [] [] [(0, 2), (1, 0), (2, 0)] [(0, 2), (1, 0), (2, 0)] 0 [] BX11_firsts := (t_sq (p1 := 18) (Γ' := [(0, 2), (1, 0), (2, 0), (3, 0)]) (t_istore_n (s_of_xI (x_callV (ts := [(0, 2), (1, 2), (2, 2), (3, 0), (4, 0)]) ck7 rfl kX7_wrongRow mokX7_wrongRow w5_194 w5_195 rfl rfl rfl rfl (a_I (ts := [(0, 2), (1, 2), (2, 2), (3, 0)]) 4 (a_I (ts := [(0, 2), (1, 2), (2, 2)]) 3 (a_R (ts := [(0, 2), (1, 2)]) 2 (a_R (ts := [(0, 2)]) 1 (a_R (ts := []) 0 a_nil (s_getR ck11 11 (by decide) rfl (s_aload_n dX11_firsts_0 rfl rfl) dX11_firsts_1 w2_229) rfl) (s_getR ck11 2 (by decide) rfl (s_aload_n dX11_firsts_4 rfl rfl) dX11_firsts_5 w2_220) rfl) (s_getR ck11 5 (by decide) rfl (s_aload_n dX11_firsts_8 rfl rfl) dX11_firsts_9 w2_223) rfl) (s_iload_n dX11_firsts_12 rfl rfl) rfl) (s_iload_n dX11_firsts_13 rfl rfl) rfl) dX11_firsts_14 w5_193)) dX11_firsts_17 rfl rfl rfl) (t_sq (p1 := 24) (Γ' := [(0, 2), (1, 0), (2, 0), (3, 0)]) (t_if (pT := 22) (pF := 24) (X := [24]) (XA := []) (XB := [24]) (c_ne_ZF (pF := 24) (s_iload_n dX11_firsts_18 rfl rfl) dX11_firsts_19 rfl) (t_ret (cv := cvI) (fun _ _ => rfl) (s_iload_n dX11_firsts_22 rfl rfl) dX11_firsts_23) (t_skip (ld_in rfl) rfl) lda_nil (lda_cons (ld_in rfl) lda_nil)) (t_sq (p1 := 45) (Γ' := [(0, 2), (1, 0), (2, 0), (3, 0)]) (t_do (x_callV (ts := [(0, 2), (1, 2), (2, 2), (3, 0), (4, 0), (5, 2)]) ck7 rfl kX7_findFirsts mokX7_findFirsts w5_216 w5_217 rfl rfl rfl rfl (a_R (ts := [(0, 2), (1, 2), (2, 2), (3, 0), (4, 0)]) 5 (a_I (ts := [(0, 2), (1, 2), (2, 2), (3, 0)]) 4 (a_I (ts := [(0, 2), (1, 2), (2, 2)]) 3 (a_R (ts := [(0, 2), (1, 2)]) 2 (a_R (ts := [(0, 2)]) 1 (a_R (ts := []) 0 a_nil (s_getR ck11 11 (by decide) rfl (s_aload_n dX11_firsts_24 rfl rfl) dX11_firsts_25 w2_229) rfl) (s_getR ck11 2 (by decide) rfl (s_aload_n dX11_firsts_28 rfl rfl) dX11_firsts_29 w2_220) rfl) (s_getR ck11 5 (by decide) rfl (s_aload_n dX11_firsts_32 rfl rfl) dX11_firsts_33 w2_223) rfl) (s_iload_n dX11_firsts_36 rfl rfl) rfl) (s_iload_n dX11_firsts_37 rfl rfl) rfl) (s_getR ck11 7 (by decide) rfl (s_aload_n dX11_firsts_38 rfl rfl) dX11_firsts_39 w2_225) rfl) dX11_firsts_42 w5_215) rfl) (t_ret (cv := cvI) (fun _ _ => rfl) (s_getI ck7 0 (by decide) rfl (s_getR ck11 11 (by decide) rfl (s_aload_n dX11_firsts_45 rfl rfl) dX11_firsts_46 w2_229) dX11_firsts_49 w2_211) dX11_firsts_52))))
noncomputable def DX11_firsts : Fr → St → Option (Int32 × St) := M1 (fun f => (sI (sI (sR fr0 0 (gR f 0)) 1 (gI f 1)) 2 (gI f 2))) BX11_firsts
theorem kX11_firsts : SND yX11_firsts cX11_firsts 4 (some .int) 8 [(0, 2), (1, 0), (2, 0)] cvoI DX11_firsts := snd_I (nw := 3) (by decide) rfl rfl (fun _ _ => rfl) sBX11_firsts
theorem dX7_leftAtWorst_0 : decode cX7_leftAtWorst 0 = .ok (.iconst 0, 1) := by decide +kernel
theorem dX7_leftAtWorst_1 : decode cX7_leftAtWorst 1 = .ok (.istore_n 2, 1) := by decide +kernel
theorem dX7_leftAtWorst_2 : decode cX7_leftAtWorst 2 = .ok (.iconst 0, 1) := by decide +kernel
theorem dX7_leftAtWorst_3 : decode cX7_leftAtWorst 3 = .ok (.istore_n 3, 1) := by decide +kernel
theorem dX7_leftAtWorst_4 : decode cX7_leftAtWorst 4 = .ok (.iload_n 3, 1) := by decide +kernel
theorem dX7_leftAtWorst_5 : decode cX7_leftAtWorst 5 = .ok (.bipush 8, 2) := by decide +kernel
theorem dX7_leftAtWorst_7 : decode cX7_leftAtWorst 7 = .ok (.if_icmp .ge 68, 3) := by decide +kernel
theorem dX7_leftAtWorst_10 : decode cX7_leftAtWorst 10 = .ok (.iconst 0, 1) := by decide +kernel
theorem dX7_leftAtWorst_11 : decode cX7_leftAtWorst 11 = .ok (.istore 4, 2) := by decide +kernel
theorem dX7_leftAtWorst_13 : decode cX7_leftAtWorst 13 = .ok (.iconst 0, 1) := by decide +kernel
theorem dX7_leftAtWorst_14 : decode cX7_leftAtWorst 14 = .ok (.istore 5, 2) := by decide +kernel
theorem dX7_leftAtWorst_16 : decode cX7_leftAtWorst 16 = .ok (.iload 5, 2) := by decide +kernel
theorem dX7_leftAtWorst_18 : decode cX7_leftAtWorst 18 = .ok (.bipush 8, 2) := by decide +kernel
theorem dX7_leftAtWorst_20 : decode cX7_leftAtWorst 20 = .ok (.if_icmp .ge 42, 3) := by decide +kernel
theorem dX7_leftAtWorst_23 : decode cX7_leftAtWorst 23 = .ok (.aload_n 0, 1) := by decide +kernel
theorem dX7_leftAtWorst_24 : decode cX7_leftAtWorst 24 = .ok (.getfield 44, 3) := by decide +kernel
theorem dX7_leftAtWorst_27 : decode cX7_leftAtWorst 27 = .ok (.iload 5, 2) := by decide +kernel
theorem dX7_leftAtWorst_29 : decode cX7_leftAtWorst 29 = .ok (.invokestatic 88, 3) := by decide +kernel
theorem dX7_leftAtWorst_32 : decode cX7_leftAtWorst 32 = .ok (.ifCond .eq 24, 3) := by decide +kernel
theorem dX7_leftAtWorst_35 : decode cX7_leftAtWorst 35 = .ok (.aload_n 0, 1) := by decide +kernel
theorem dX7_leftAtWorst_36 : decode cX7_leftAtWorst 36 = .ok (.getfield 11, 3) := by decide +kernel
theorem dX7_leftAtWorst_39 : decode cX7_leftAtWorst 39 = .ok (.iload 5, 2) := by decide +kernel
theorem dX7_leftAtWorst_41 : decode cX7_leftAtWorst 41 = .ok (.bipush 13, 2) := by decide +kernel
theorem dX7_leftAtWorst_43 : decode cX7_leftAtWorst 43 = .ok (.imul, 1) := by decide +kernel
theorem dX7_leftAtWorst_44 : decode cX7_leftAtWorst 44 = .ok (.iload_n 1, 1) := by decide +kernel
theorem dX7_leftAtWorst_45 : decode cX7_leftAtWorst 45 = .ok (.iadd, 1) := by decide +kernel
theorem dX7_leftAtWorst_46 : decode cX7_leftAtWorst 46 = .ok (.invokestatic 92, 3) := by decide +kernel
theorem dX7_leftAtWorst_49 : decode cX7_leftAtWorst 49 = .ok (.iload_n 3, 1) := by decide +kernel
theorem dX7_leftAtWorst_50 : decode cX7_leftAtWorst 50 = .ok (.if_icmp .ne 6, 3) := by decide +kernel
theorem dX7_leftAtWorst_53 : decode cX7_leftAtWorst 53 = .ok (.iinc 4 1, 3) := by decide +kernel
theorem dX7_leftAtWorst_56 : decode cX7_leftAtWorst 56 = .ok (.iinc 5 1, 3) := by decide +kernel
theorem dX7_leftAtWorst_59 : decode cX7_leftAtWorst 59 = .ok (.goto (-43), 3) := by decide +kernel
theorem dX7_leftAtWorst_62 : decode cX7_leftAtWorst 62 = .ok (.iload_n 2, 1) := by decide +kernel
theorem dX7_leftAtWorst_63 : decode cX7_leftAtWorst 63 = .ok (.iload 4, 2) := by decide +kernel
theorem dX7_leftAtWorst_65 : decode cX7_leftAtWorst 65 = .ok (.invokestatic 96, 3) := by decide +kernel
theorem dX7_leftAtWorst_68 : decode cX7_leftAtWorst 68 = .ok (.istore_n 2, 1) := by decide +kernel
theorem dX7_leftAtWorst_69 : decode cX7_leftAtWorst 69 = .ok (.iinc 3 1, 3) := by decide +kernel
theorem dX7_leftAtWorst_72 : decode cX7_leftAtWorst 72 = .ok (.goto (-68), 3) := by decide +kernel
theorem dX7_leftAtWorst_75 : decode cX7_leftAtWorst 75 = .ok (.iload_n 2, 1) := by decide +kernel
theorem dX7_leftAtWorst_76 : decode cX7_leftAtWorst 76 = .ok (.ireturn, 1) := by decide +kernel
theorem mokX7_leftAtWorst : MOK yX7_leftAtWorst cX7_leftAtWorst 6 (some .int) 1 := ⟨w5_239, w1_12, ⟨by decide, by decide⟩, by decide +kernel, by decide⟩
abbrev miX7_leftAtWorst : MI := (yX7_leftAtWorst.cls, cX7_leftAtWorst, 6, 2, false)
noncomputable def LX7_leftAtWorst_1 : Sm Int32 := dLoop (fun f => (sI (sI (sI (sI (sI (sR fr0 0 (gR f 0)) 1 (gI f 1)) 2 (gI f 2)) 3 (gI f 3)) 4 (gI f 4)) 5 (gI f 5))) (dCI r_lt (vI 5) (cI 8)) (dIf (dAnd (dCZ q_ne (dCall DX11_hasBit (aI (aI aN 0 (dGI 7 0 (vR 0))) 1 (vI 5)))) (dCI r_eq (dCall DX11_cell (aI (aR aN 0 (dGR 7 1 (vR 0))) 1 (d2 o_iadd (d2 o_imul (vI 5) (cI 13)) (vI 1)))) (vI 3))) (dInc 4 1) dSkip) (dInc 5 1)
theorem sLX7_leftAtWorst_1 {ΓL : Gm} {PB PK : List Nat} : SS (cvoI, .ireturn) miX7_leftAtWorst ΓL PB PK [(0, 2), (1, 0), (2, 0), (3, 0), (4, 0), (5, 0)] [(0, 2), (1, 0), (2, 0), (3, 0), (4, 0), (5, 0)] 16 [62] LX7_leftAtWorst_1 := t_loop (pT := 23) (pF := 62) (pu := 56) (PB' := []) (PK' := []) (XB := [56]) (XU := [59]) (fun _ _ => rfl) rfl (c_lt_F (pF := 62) (s_iload dX7_leftAtWorst_16 rfl) (s_bipush dX7_leftAtWorst_18 rfl) dX7_leftAtWorst_20 rfl) (t_if (pT := 53) (pF := 56) (X := [56]) (XA := [56]) (XB := [56]) (c_and (p1 := 35) (pT := 53) (pF := 56) (c_ne_ZF (pF := 56) (s_of_xI (x_callN (ts := [(0, 0), (1, 0)]) kX11_hasBit mokX11_hasBit w4_37 rfl rfl rfl (a_I (ts := [(0, 0)]) 1 (a_I (ts := []) 0 a_nil (s_getI ck7 0 (by decide) rfl (s_aload_n dX7_leftAtWorst_23 rfl rfl) dX7_leftAtWorst_24 w2_210) rfl) (s_iload dX7_leftAtWorst_27 rfl) rfl) dX7_leftAtWorst_29 nb29)) dX7_leftAtWorst_32 rfl) (c_eq_F (pF := 56) (s_of_xI (x_callN (ts := [(0, 2), (1, 0)]) kX11_cell mokX11_cell w3_229 rfl rfl rfl (a_I (ts := [(0, 2)]) 1 (a_R (ts := []) 0 a_nil (s_getR ck7 1 (by decide) rfl (s_aload_n dX7_leftAtWorst_35 rfl rfl) dX7_leftAtWorst_36 w2_212) rfl) (s_iadd (s_imul (s_iload dX7_leftAtWorst_39 rfl) (s_bipush dX7_leftAtWorst_41 rfl) dX7_leftAtWorst_43) (s_iload_n dX7_leftAtWorst_44 rfl rfl) dX7_leftAtWorst_45) rfl) dX7_leftAtWorst_46 nb30)) (s_iload_n dX7_leftAtWorst_49 rfl rfl) dX7_leftAtWorst_50 rfl)) (t_iinc dX7_leftAtWorst_53 rfl rfl rfl rfl) (t_skip (ld_in rfl) rfl) (lda_cons (ld_in rfl) lda_nil) (lda_cons (ld_in rfl) lda_nil)) (t_iinc dX7_leftAtWorst_56 rfl rfl rfl rfl) (lda_cons (ld_in rfl) lda_nil) lda_nil (lda_cons (ld_goto (y := 16) dX7_leftAtWorst_59 rfl (ld_in rfl)) lda_nil) (ld_in rfl) lda_nil
noncomputable def LX7_leftAtWorst_2 : Sm Int32 := dLoop (fun f => (sI (sI (sI (sR fr0 0 (gR f 0)) 1 (gI f 1)) 2 (gI f 2)) 3 (gI f 3))) (dCI r_lt (vI 3) (cI 8)) (dSeq (dSetI 4 (cI 0)) (dSeq (dSeq (dSetI 5 (cI 0)) LX7_leftAtWorst_1) (dSetI 2 (d2 o_imax (vI 2) (vI 4))))) (dInc 3 1)
theorem sLX7_leftAtWorst_2 {ΓL : Gm} {PB PK : List Nat} : SS (cvoI, .ireturn) miX7_leftAtWorst ΓL PB PK [(0, 2), (1, 0), (2, 0), (3, 0)] [(0, 2), (1, 0), (2, 0), (3, 0)] 4 [75] LX7_leftAtWorst_2 := t_loop (pT := 10) (pF := 75) (pu := 69) (PB' := []) (PK' := []) (XB := [69]) (XU := [72]) (fun _ _ => rfl) rfl (c_lt_F (pF := 75) (s_iload_n dX7_leftAtWorst_4 rfl rfl) (s_bipush dX7_leftAtWorst_5 rfl) dX7_leftAtWorst_7 rfl) (t_sq (p1 := 13) (Γ' := [(0, 2), (1, 0), (2, 0), (3, 0), (4, 0)]) (t_istore (s_iconst dX7_leftAtWorst_10 rfl) dX7_leftAtWorst_11 rfl rfl) (t_sq (p1 := 62) (Γ' := [(0, 2), (1, 0), (2, 0), (3, 0), (4, 0)]) (t_sq (p1 := 16) (Γ' := [(0, 2), (1, 0), (2, 0), (3, 0), (4, 0), (5, 0)]) (t_istore (s_iconst dX7_leftAtWorst_13 rfl) dX7_leftAtWorst_14 rfl rfl) (tn_to (Γ' := [(0, 2), (1, 0), (2, 0), (3, 0), (4, 0), (5, 0)]) (XA := [62]) sLX7_leftAtWorst_1 (lda_cons (ld_in rfl) lda_nil) rfl)) (t_istore_n (s_mmax (s_iload_n dX7_leftAtWorst_62 rfl rfl) (s_iload dX7_leftAtWorst_63 rfl) rfl rfl dX7_leftAtWorst_65 w6_2) dX7_leftAtWorst_68 rfl rfl rfl))) (t_iinc dX7_leftAtWorst_69 rfl rfl rfl rfl) (lda_cons (ld_in rfl) lda_nil) lda_nil (lda_cons (ld_goto (y := 4) dX7_leftAtWorst_72 rfl (ld_in rfl)) lda_nil) (ld_in rfl) lda_nil
noncomputable def BX7_leftAtWorst : Sm Int32 := (dSeq (dSetI 2 (cI 0)) (dSeq (dSeq (dSetI 3 (cI 0)) LX7_leftAtWorst_2) (dRet (vI 2))))
theorem sBX7_leftAtWorst : SS (cvoI, .ireturn) miX7_leftAtWorst [] [] [] [(0, 2), (1, 0)] [(0, 2), (1, 0)] 0 [] BX7_leftAtWorst := (t_sq (p1 := 2) (Γ' := [(0, 2), (1, 0), (2, 0)]) (t_istore_n (s_iconst dX7_leftAtWorst_0 rfl) dX7_leftAtWorst_1 rfl rfl rfl) (t_sq (p1 := 75) (Γ' := [(0, 2), (1, 0), (2, 0)]) (t_sq (p1 := 4) (Γ' := [(0, 2), (1, 0), (2, 0), (3, 0)]) (t_istore_n (s_iconst dX7_leftAtWorst_2 rfl) dX7_leftAtWorst_3 rfl rfl rfl) (tn_to (Γ' := [(0, 2), (1, 0), (2, 0), (3, 0)]) (XA := [75]) sLX7_leftAtWorst_2 (lda_cons (ld_in rfl) lda_nil) rfl)) (t_ret (cv := cvI) (fun _ _ => rfl) (s_iload_n dX7_leftAtWorst_75 rfl rfl) dX7_leftAtWorst_76)))
noncomputable def DX7_leftAtWorst : Fr → St → Option (Int32 × St) := M1 (fun f => (sI (sR fr0 0 (gR f 0)) 1 (gI f 1))) BX7_leftAtWorst
theorem kX7_leftAtWorst : SND yX7_leftAtWorst cX7_leftAtWorst 6 (some .int) 2 [(0, 2), (1, 0)] cvoI DX7_leftAtWorst := snd_I (nw := 2) (by decide) rfl rfl (fun _ _ => rfl) sBX7_leftAtWorst
theorem dX7_bestDay_0 : decode cX7_bestDay 0 = .ok (.iconst (-1), 1) := by decide +kernel
theorem dX7_bestDay_1 : decode cX7_bestDay 1 = .ok (.istore_n 2, 1) := by decide +kernel
theorem dX7_bestDay_2 : decode cX7_bestDay 2 = .ok (.aload_n 0, 1) := by decide +kernel
theorem dX7_bestDay_3 : decode cX7_bestDay 3 = .ok (.getfield 44, 3) := by decide +kernel
theorem dX7_bestDay_6 : decode cX7_bestDay 6 = .ok (.invokestatic 80, 3) := by decide +kernel
theorem dX7_bestDay_9 : decode cX7_bestDay 9 = .ok (.istore_n 3, 1) := by decide +kernel
theorem dX7_bestDay_10 : decode cX7_bestDay 10 = .ok (.iconst 0, 1) := by decide +kernel
theorem dX7_bestDay_11 : decode cX7_bestDay 11 = .ok (.istore 4, 2) := by decide +kernel
theorem dX7_bestDay_13 : decode cX7_bestDay 13 = .ok (.iload 4, 2) := by decide +kernel
theorem dX7_bestDay_15 : decode cX7_bestDay 15 = .ok (.aload_n 1, 1) := by decide +kernel
theorem dX7_bestDay_16 : decode cX7_bestDay 16 = .ok (.getfield 37, 3) := by decide +kernel
theorem dX7_bestDay_19 : decode cX7_bestDay 19 = .ok (.if_icmp .gt 29, 3) := by decide +kernel
theorem dX7_bestDay_22 : decode cX7_bestDay 22 = .ok (.aload_n 0, 1) := by decide +kernel
theorem dX7_bestDay_23 : decode cX7_bestDay 23 = .ok (.iload 4, 2) := by decide +kernel
theorem dX7_bestDay_25 : decode cX7_bestDay 25 = .ok (.invokevirtual 85, 3) := by decide +kernel
theorem dX7_bestDay_28 : decode cX7_bestDay 28 = .ok (.istore 5, 2) := by decide +kernel
theorem dX7_bestDay_30 : decode cX7_bestDay 30 = .ok (.iload 5, 2) := by decide +kernel
theorem dX7_bestDay_32 : decode cX7_bestDay 32 = .ok (.iload_n 3, 1) := by decide +kernel
theorem dX7_bestDay_33 : decode cX7_bestDay 33 = .ok (.if_icmp .ge 9, 3) := by decide +kernel
theorem dX7_bestDay_36 : decode cX7_bestDay 36 = .ok (.iload 5, 2) := by decide +kernel
theorem dX7_bestDay_38 : decode cX7_bestDay 38 = .ok (.istore_n 3, 1) := by decide +kernel
theorem dX7_bestDay_39 : decode cX7_bestDay 39 = .ok (.iload 4, 2) := by decide +kernel
theorem dX7_bestDay_41 : decode cX7_bestDay 41 = .ok (.istore_n 2, 1) := by decide +kernel
theorem dX7_bestDay_42 : decode cX7_bestDay 42 = .ok (.iinc 4 1, 3) := by decide +kernel
theorem dX7_bestDay_45 : decode cX7_bestDay 45 = .ok (.goto (-32), 3) := by decide +kernel
theorem dX7_bestDay_48 : decode cX7_bestDay 48 = .ok (.iload_n 2, 1) := by decide +kernel
theorem dX7_bestDay_49 : decode cX7_bestDay 49 = .ok (.ireturn, 1) := by decide +kernel
theorem mokX7_bestDay : MOK yX7_bestDay cX7_bestDay 6 (some .int) 1 := ⟨w5_234, w1_12, ⟨by decide, by decide⟩, by decide +kernel, by decide⟩
abbrev miX7_bestDay : MI := (yX7_bestDay.cls, cX7_bestDay, 6, 3, false)
noncomputable def LX7_bestDay_1 : Sm Int32 := dLoop (fun f => (sI (sI (sI (sR (sR fr0 0 (gR f 0)) 1 (gR f 1)) 2 (gI f 2)) 3 (gI f 3)) 4 (gI f 4))) (dCI r_le (vI 4) (dGI 5 1 (vR 1))) (dSeq (dSetI 5 (dCallV 7 DX7_leftAtWorst (aI (aR aN 0 (vR 0)) 1 (vI 4)))) (dIf (dCI r_lt (vI 5) (vI 3)) (dSeq (dSetI 3 (vI 5)) (dSetI 2 (vI 4))) dSkip)) (dInc 4 1)
theorem sLX7_bestDay_1 {ΓL : Gm} {PB PK : List Nat} : SS (cvoI, .ireturn) miX7_bestDay ΓL PB PK [(0, 2), (1, 2), (2, 0), (3, 0), (4, 0)] [(0, 2), (1, 2), (2, 0), (3, 0), (4, 0)] 13 [48] LX7_bestDay_1 := t_loop (pT := 22) (pF := 48) (pu := 42) (PB' := []) (PK' := []) (XB := [42]) (XU := [45]) (fun _ _ => rfl) rfl (c_le_F (pF := 48) (s_iload dX7_bestDay_13 rfl) (s_getI ck5 1 (by decide) rfl (s_aload_n dX7_bestDay_15 rfl rfl) dX7_bestDay_16 w1_135) dX7_bestDay_19 rfl) (t_sq (p1 := 30) (Γ' := [(0, 2), (1, 2), (2, 0), (3, 0), (4, 0), (5, 0)]) (t_istore (s_of_xI (x_callV (ts := [(0, 2), (1, 0)]) ck7 rfl kX7_leftAtWorst mokX7_leftAtWorst w5_237 w5_238 rfl rfl rfl rfl (a_I (ts := [(0, 2)]) 1 (a_R (ts := []) 0 a_nil (s_aload_n dX7_bestDay_22 rfl rfl) rfl) (s_iload dX7_bestDay_23 rfl) rfl) dX7_bestDay_25 w5_236)) dX7_bestDay_28 rfl rfl) (t_if (pT := 36) (pF := 42) (X := [42]) (XA := [42]) (XB := [42]) (c_lt_F (pF := 42) (s_iload dX7_bestDay_30 rfl) (s_iload_n dX7_bestDay_32 rfl rfl) dX7_bestDay_33 rfl) (t_sq (p1 := 39) (Γ' := [(0, 2), (1, 2), (2, 0), (3, 0), (4, 0), (5, 0)]) (t_istore_n (s_iload dX7_bestDay_36 rfl) dX7_bestDay_38 rfl rfl rfl) (t_istore_n (s_iload dX7_bestDay_39 rfl) dX7_bestDay_41 rfl rfl rfl)) (t_skip (ld_in rfl) rfl) (lda_cons (ld_in rfl) lda_nil) (lda_cons (ld_in rfl) lda_nil))) (t_iinc dX7_bestDay_42 rfl rfl rfl rfl) (lda_cons (ld_in rfl) lda_nil) lda_nil (lda_cons (ld_goto (y := 13) dX7_bestDay_45 rfl (ld_in rfl)) lda_nil) (ld_in rfl) lda_nil
noncomputable def BX7_bestDay : Sm Int32 := (dSeq (dSetI 2 (cI (-1))) (dSeq (dSetI 3 (dCall DJ6_bitCount_0f7a4 (aI aN 0 (dGI 7 0 (vR 0))))) (dSeq (dSeq (dSetI 4 (cI 0)) LX7_bestDay_1) (dRet (vI 2)))))
theorem sBX7_bestDay : SS (cvoI, .ireturn) miX7_bestDay [] [] [] [(0, 2), (1, 2)] [(0, 2), (1, 2)] 0 [] BX7_bestDay := (t_sq (p1 := 2) (Γ' := [(0, 2), (1, 2), (2, 0)]) (t_istore_n (s_iconst dX7_bestDay_0 rfl) dX7_bestDay_1 rfl rfl rfl) (t_sq (p1 := 10) (Γ' := [(0, 2), (1, 2), (2, 0), (3, 0)]) (t_istore_n (s_of_xI (x_call (ts := [(0, 0)]) kJ6_bitCount_0f7a4 mokJ6_bitCount_0f7a4 w5_28 rfl rfl rfl (a_I (ts := []) 0 a_nil (s_getI ck7 0 (by decide) rfl (s_aload_n dX7_bestDay_2 rfl rfl) dX7_bestDay_3 w2_210) rfl) dX7_bestDay_6 w5_235)) dX7_bestDay_9 rfl rfl rfl) (t_sq (p1 := 48) (Γ' := [(0, 2), (1, 2), (2, 0), (3, 0)]) (t_sq (p1 := 13) (Γ' := [(0, 2), (1, 2), (2, 0), (3, 0), (4, 0)]) (t_istore (s_iconst dX7_bestDay_10 rfl) dX7_bestDay_11 rfl rfl) (tn_to (Γ' := [(0, 2), (1, 2), (2, 0), (3, 0), (4, 0)]) (XA := [48]) sLX7_bestDay_1 (lda_cons (ld_in rfl) lda_nil) rfl)) (t_ret (cv := cvI) (fun _ _ => rfl) (s_iload_n dX7_bestDay_48 rfl rfl) dX7_bestDay_49))))
noncomputable def DX7_bestDay : Fr → St → Option (Int32 × St) := M1 (fun f => (sR (sR fr0 0 (gR f 0)) 1 (gR f 1))) BX7_bestDay
theorem kX7_bestDay : SND yX7_bestDay cX7_bestDay 6 (some .int) 3 [(0, 2), (1, 2)] cvoI DX7_bestDay := snd_I (nw := 2) (by decide) rfl rfl (fun _ _ => rfl) sBX7_bestDay
theorem dX11_ask_0 : decode cX11_ask 0 = .ok (.aload_n 0, 1) := by decide +kernel
theorem dX11_ask_1 : decode cX11_ask 1 = .ok (.getfield 78, 3) := by decide +kernel
theorem dX11_ask_4 : decode cX11_ask 4 = .ok (.aload_n 0, 1) := by decide +kernel
theorem dX11_ask_5 : decode cX11_ask 5 = .ok (.getfield 26, 3) := by decide +kernel
theorem dX11_ask_8 : decode cX11_ask 8 = .ok (.aload_n 0, 1) := by decide +kernel
theorem dX11_ask_9 : decode cX11_ask 9 = .ok (.getfield 40, 3) := by decide +kernel
theorem dX11_ask_12 : decode cX11_ask 12 = .ok (.iload_n 1, 1) := by decide +kernel
theorem dX11_ask_13 : decode cX11_ask 13 = .ok (.iload_n 2, 1) := by decide +kernel
theorem dX11_ask_14 : decode cX11_ask 14 = .ok (.invokevirtual 314, 3) := by decide +kernel
theorem dX11_ask_17 : decode cX11_ask 17 = .ok (.istore_n 3, 1) := by decide +kernel
theorem dX11_ask_18 : decode cX11_ask 18 = .ok (.iload_n 3, 1) := by decide +kernel
theorem dX11_ask_19 : decode cX11_ask 19 = .ok (.ifCond .eq 5, 3) := by decide +kernel
theorem dX11_ask_22 : decode cX11_ask 22 = .ok (.iload_n 3, 1) := by decide +kernel
theorem dX11_ask_23 : decode cX11_ask 23 = .ok (.ireturn, 1) := by decide +kernel
theorem dX11_ask_24 : decode cX11_ask 24 = .ok (.aload_n 0, 1) := by decide +kernel
theorem dX11_ask_25 : decode cX11_ask 25 = .ok (.getfield 78, 3) := by decide +kernel
theorem dX11_ask_28 : decode cX11_ask 28 = .ok (.aload_n 0, 1) := by decide +kernel
theorem dX11_ask_29 : decode cX11_ask 29 = .ok (.getfield 26, 3) := by decide +kernel
theorem dX11_ask_32 : decode cX11_ask 32 = .ok (.aload_n 0, 1) := by decide +kernel
theorem dX11_ask_33 : decode cX11_ask 33 = .ok (.getfield 40, 3) := by decide +kernel
theorem dX11_ask_36 : decode cX11_ask 36 = .ok (.iload_n 1, 1) := by decide +kernel
theorem dX11_ask_37 : decode cX11_ask 37 = .ok (.iload_n 2, 1) := by decide +kernel
theorem dX11_ask_38 : decode cX11_ask 38 = .ok (.aload_n 0, 1) := by decide +kernel
theorem dX11_ask_39 : decode cX11_ask 39 = .ok (.getfield 51, 3) := by decide +kernel
theorem dX11_ask_42 : decode cX11_ask 42 = .ok (.invokevirtual 318, 3) := by decide +kernel
theorem dX11_ask_45 : decode cX11_ask 45 = .ok (.aload_n 0, 1) := by decide +kernel
theorem dX11_ask_46 : decode cX11_ask 46 = .ok (.getfield 78, 3) := by decide +kernel
theorem dX11_ask_49 : decode cX11_ask 49 = .ok (.aload_n 0, 1) := by decide +kernel
theorem dX11_ask_50 : decode cX11_ask 50 = .ok (.getfield 26, 3) := by decide +kernel
theorem dX11_ask_53 : decode cX11_ask 53 = .ok (.invokevirtual 325, 3) := by decide +kernel
theorem dX11_ask_56 : decode cX11_ask 56 = .ok (.ireturn, 1) := by decide +kernel
theorem mokX11_ask : MOK yX11_ask cX11_ask 4 (some .int) 2 := ⟨w5_230, w1_1, ⟨by decide, by decide⟩, by decide +kernel, by decide⟩
abbrev miX11_ask : MI := (yX11_ask.cls, cX11_ask, 4, 8, false)
noncomputable def BX11_ask : Sm Int32 := (dSeq (dSetI 3 (dCallV 7 DX7_wrongRow (aI (aI (aR (aR (aR aN 0 (dGR 11 11 (vR 0))) 1 (dGR 11 2 (vR 0))) 2 (dGR 11 5 (vR 0))) 3 (vI 1)) 4 (vI 2)))) (dSeq (dIf (dCZ q_ne (vI 3)) (dRet (vI 3)) dSkip) (dSeq (dDo (dCallV 7 DX7_findFirsts (aR (aI (aI (aR (aR (aR aN 0 (dGR 11 11 (vR 0))) 1 (dGR 11 2 (vR 0))) 2 (dGR 11 5 (vR 0))) 3 (vI 1)) 4 (vI 2)) 5 (dGR 11 7 (vR 0))))) (dRet (dCallV 7 DX7_bestDay (aR (aR aN 0 (dGR 11 11 (vR 0))) 1 (dGR 11 2 (vR 0))))))))
theorem sBX11_ask : SS (cvoI, .ireturn) miX11_ask [] [] [] [(0, 2), (1, 0), (2, 0)] [(0, 2), (1, 0), (2, 0)] 0 [] BX11_ask := (t_sq (p1 := 18) (Γ' := [(0, 2), (1, 0), (2, 0), (3, 0)]) (t_istore_n (s_of_xI (x_callV (ts := [(0, 2), (1, 2), (2, 2), (3, 0), (4, 0)]) ck7 rfl kX7_wrongRow mokX7_wrongRow w5_194 w5_195 rfl rfl rfl rfl (a_I (ts := [(0, 2), (1, 2), (2, 2), (3, 0)]) 4 (a_I (ts := [(0, 2), (1, 2), (2, 2)]) 3 (a_R (ts := [(0, 2), (1, 2)]) 2 (a_R (ts := [(0, 2)]) 1 (a_R (ts := []) 0 a_nil (s_getR ck11 11 (by decide) rfl (s_aload_n dX11_ask_0 rfl rfl) dX11_ask_1 w2_229) rfl) (s_getR ck11 2 (by decide) rfl (s_aload_n dX11_ask_4 rfl rfl) dX11_ask_5 w2_220) rfl) (s_getR ck11 5 (by decide) rfl (s_aload_n dX11_ask_8 rfl rfl) dX11_ask_9 w2_223) rfl) (s_iload_n dX11_ask_12 rfl rfl) rfl) (s_iload_n dX11_ask_13 rfl rfl) rfl) dX11_ask_14 w5_193)) dX11_ask_17 rfl rfl rfl) (t_sq (p1 := 24) (Γ' := [(0, 2), (1, 0), (2, 0), (3, 0)]) (t_if (pT := 22) (pF := 24) (X := [24]) (XA := []) (XB := [24]) (c_ne_ZF (pF := 24) (s_iload_n dX11_ask_18 rfl rfl) dX11_ask_19 rfl) (t_ret (cv := cvI) (fun _ _ => rfl) (s_iload_n dX11_ask_22 rfl rfl) dX11_ask_23) (t_skip (ld_in rfl) rfl) lda_nil (lda_cons (ld_in rfl) lda_nil)) (t_sq (p1 := 45) (Γ' := [(0, 2), (1, 0), (2, 0), (3, 0)]) (t_do (x_callV (ts := [(0, 2), (1, 2), (2, 2), (3, 0), (4, 0), (5, 2)]) ck7 rfl kX7_findFirsts mokX7_findFirsts w5_216 w5_217 rfl rfl rfl rfl (a_R (ts := [(0, 2), (1, 2), (2, 2), (3, 0), (4, 0)]) 5 (a_I (ts := [(0, 2), (1, 2), (2, 2), (3, 0)]) 4 (a_I (ts := [(0, 2), (1, 2), (2, 2)]) 3 (a_R (ts := [(0, 2), (1, 2)]) 2 (a_R (ts := [(0, 2)]) 1 (a_R (ts := []) 0 a_nil (s_getR ck11 11 (by decide) rfl (s_aload_n dX11_ask_24 rfl rfl) dX11_ask_25 w2_229) rfl) (s_getR ck11 2 (by decide) rfl (s_aload_n dX11_ask_28 rfl rfl) dX11_ask_29 w2_220) rfl) (s_getR ck11 5 (by decide) rfl (s_aload_n dX11_ask_32 rfl rfl) dX11_ask_33 w2_223) rfl) (s_iload_n dX11_ask_36 rfl rfl) rfl) (s_iload_n dX11_ask_37 rfl rfl) rfl) (s_getR ck11 7 (by decide) rfl (s_aload_n dX11_ask_38 rfl rfl) dX11_ask_39 w2_225) rfl) dX11_ask_42 w5_215) rfl) (t_ret (cv := cvI) (fun _ _ => rfl) (s_of_xI (x_callV (ts := [(0, 2), (1, 2)]) ck7 rfl kX7_bestDay mokX7_bestDay w5_232 w5_233 rfl rfl rfl rfl (a_R (ts := [(0, 2)]) 1 (a_R (ts := []) 0 a_nil (s_getR ck11 11 (by decide) rfl (s_aload_n dX11_ask_45 rfl rfl) dX11_ask_46 w2_229) rfl) (s_getR ck11 2 (by decide) rfl (s_aload_n dX11_ask_49 rfl rfl) dX11_ask_50 w2_220) rfl) dX11_ask_53 w5_231)) dX11_ask_56))))
noncomputable def DX11_ask : Fr → St → Option (Int32 × St) := M1 (fun f => (sI (sI (sR fr0 0 (gR f 0)) 1 (gI f 1)) 2 (gI f 2))) BX11_ask
theorem kX11_ask : SND yX11_ask cX11_ask 4 (some .int) 8 [(0, 2), (1, 0), (2, 0)] cvoI DX11_ask := snd_I (nw := 3) (by decide) rfl rfl (fun _ _ => rfl) sBX11_ask
theorem dX11_leaves_0 : decode cX11_leaves 0 = .ok (.aload_n 0, 1) := by decide +kernel
theorem dX11_leaves_1 : decode cX11_leaves 1 = .ok (.getfield 78, 3) := by decide +kernel
theorem dX11_leaves_4 : decode cX11_leaves 4 = .ok (.aload_n 0, 1) := by decide +kernel
theorem dX11_leaves_5 : decode cX11_leaves 5 = .ok (.getfield 26, 3) := by decide +kernel
theorem dX11_leaves_8 : decode cX11_leaves 8 = .ok (.aload_n 0, 1) := by decide +kernel
theorem dX11_leaves_9 : decode cX11_leaves 9 = .ok (.getfield 40, 3) := by decide +kernel
theorem dX11_leaves_12 : decode cX11_leaves 12 = .ok (.iload_n 1, 1) := by decide +kernel
theorem dX11_leaves_13 : decode cX11_leaves 13 = .ok (.iload_n 2, 1) := by decide +kernel
theorem dX11_leaves_14 : decode cX11_leaves 14 = .ok (.invokevirtual 314, 3) := by decide +kernel
theorem dX11_leaves_17 : decode cX11_leaves 17 = .ok (.istore_n 3, 1) := by decide +kernel
theorem dX11_leaves_18 : decode cX11_leaves 18 = .ok (.iload_n 3, 1) := by decide +kernel
theorem dX11_leaves_19 : decode cX11_leaves 19 = .ok (.ifCond .eq 5, 3) := by decide +kernel
theorem dX11_leaves_22 : decode cX11_leaves 22 = .ok (.iload_n 3, 1) := by decide +kernel
theorem dX11_leaves_23 : decode cX11_leaves 23 = .ok (.ireturn, 1) := by decide +kernel
theorem dX11_leaves_24 : decode cX11_leaves 24 = .ok (.aload_n 0, 1) := by decide +kernel
theorem dX11_leaves_25 : decode cX11_leaves 25 = .ok (.getfield 78, 3) := by decide +kernel
theorem dX11_leaves_28 : decode cX11_leaves 28 = .ok (.aload_n 0, 1) := by decide +kernel
theorem dX11_leaves_29 : decode cX11_leaves 29 = .ok (.getfield 26, 3) := by decide +kernel
theorem dX11_leaves_32 : decode cX11_leaves 32 = .ok (.aload_n 0, 1) := by decide +kernel
theorem dX11_leaves_33 : decode cX11_leaves 33 = .ok (.getfield 40, 3) := by decide +kernel
theorem dX11_leaves_36 : decode cX11_leaves 36 = .ok (.iload_n 1, 1) := by decide +kernel
theorem dX11_leaves_37 : decode cX11_leaves 37 = .ok (.iload_n 2, 1) := by decide +kernel
theorem dX11_leaves_38 : decode cX11_leaves 38 = .ok (.aload_n 0, 1) := by decide +kernel
theorem dX11_leaves_39 : decode cX11_leaves 39 = .ok (.getfield 51, 3) := by decide +kernel
theorem dX11_leaves_42 : decode cX11_leaves 42 = .ok (.invokevirtual 318, 3) := by decide +kernel
theorem dX11_leaves_45 : decode cX11_leaves 45 = .ok (.aload_n 0, 1) := by decide +kernel
theorem dX11_leaves_46 : decode cX11_leaves 46 = .ok (.getfield 78, 3) := by decide +kernel
theorem dX11_leaves_49 : decode cX11_leaves 49 = .ok (.aload_n 0, 1) := by decide +kernel
theorem dX11_leaves_50 : decode cX11_leaves 50 = .ok (.getfield 26, 3) := by decide +kernel
theorem dX11_leaves_53 : decode cX11_leaves 53 = .ok (.invokevirtual 325, 3) := by decide +kernel
theorem dX11_leaves_56 : decode cX11_leaves 56 = .ok (.istore 4, 2) := by decide +kernel
theorem dX11_leaves_58 : decode cX11_leaves 58 = .ok (.iload 4, 2) := by decide +kernel
theorem dX11_leaves_60 : decode cX11_leaves 60 = .ok (.iconst (-1), 1) := by decide +kernel
theorem dX11_leaves_61 : decode cX11_leaves 61 = .ok (.if_icmp .ne 16, 3) := by decide +kernel
theorem dX11_leaves_64 : decode cX11_leaves 64 = .ok (.aload_n 0, 1) := by decide +kernel
theorem dX11_leaves_65 : decode cX11_leaves 65 = .ok (.getfield 78, 3) := by decide +kernel
theorem dX11_leaves_68 : decode cX11_leaves 68 = .ok (.getfield 322, 3) := by decide +kernel
theorem dX11_leaves_71 : decode cX11_leaves 71 = .ok (.invokestatic 243, 3) := by decide +kernel
theorem dX11_leaves_74 : decode cX11_leaves 74 = .ok (.goto 12, 3) := by decide +kernel
theorem dX11_leaves_77 : decode cX11_leaves 77 = .ok (.aload_n 0, 1) := by decide +kernel
theorem dX11_leaves_78 : decode cX11_leaves 78 = .ok (.getfield 78, 3) := by decide +kernel
theorem dX11_leaves_81 : decode cX11_leaves 81 = .ok (.iload 4, 2) := by decide +kernel
theorem dX11_leaves_83 : decode cX11_leaves 83 = .ok (.invokevirtual 329, 3) := by decide +kernel
theorem dX11_leaves_86 : decode cX11_leaves 86 = .ok (.ireturn, 1) := by decide +kernel
theorem mokX11_leaves : MOK yX11_leaves cX11_leaves 5 (some .int) 2 := ⟨w6_6, w1_1, ⟨by decide, by decide⟩, by decide +kernel, by decide⟩
abbrev miX11_leaves : MI := (yX11_leaves.cls, cX11_leaves, 5, 8, false)
noncomputable def BX11_leaves : Sm Int32 := (dSeq (dSetI 3 (dCallV 7 DX7_wrongRow (aI (aI (aR (aR (aR aN 0 (dGR 11 11 (vR 0))) 1 (dGR 11 2 (vR 0))) 2 (dGR 11 5 (vR 0))) 3 (vI 1)) 4 (vI 2)))) (dSeq (dIf (dCZ q_ne (vI 3)) (dRet (vI 3)) dSkip) (dSeq (dDo (dCallV 7 DX7_findFirsts (aR (aI (aI (aR (aR (aR aN 0 (dGR 11 11 (vR 0))) 1 (dGR 11 2 (vR 0))) 2 (dGR 11 5 (vR 0))) 3 (vI 1)) 4 (vI 2)) 5 (dGR 11 7 (vR 0))))) (dSeq (dSetI 4 (dCallV 7 DX7_bestDay (aR (aR aN 0 (dGR 11 11 (vR 0))) 1 (dGR 11 2 (vR 0))))) (dRet (dT (dCI r_eq (vI 4) (cI (-1))) (dCall DJ6_bitCount_0f7a4 (aI aN 0 (dGI 7 0 (dGR 11 11 (vR 0))))) (dCallV 7 DX7_leftAtWorst (aI (aR aN 0 (dGR 11 11 (vR 0))) 1 (vI 4)))))))))
theorem sBX11_leaves : SS (cvoI, .ireturn) miX11_leaves [] [] [] [(0, 2), (1, 0), (2, 0)] [(0, 2), (1, 0), (2, 0)] 0 [] BX11_leaves := (t_sq (p1 := 18) (Γ' := [(0, 2), (1, 0), (2, 0), (3, 0)]) (t_istore_n (s_of_xI (x_callV (ts := [(0, 2), (1, 2), (2, 2), (3, 0), (4, 0)]) ck7 rfl kX7_wrongRow mokX7_wrongRow w5_194 w5_195 rfl rfl rfl rfl (a_I (ts := [(0, 2), (1, 2), (2, 2), (3, 0)]) 4 (a_I (ts := [(0, 2), (1, 2), (2, 2)]) 3 (a_R (ts := [(0, 2), (1, 2)]) 2 (a_R (ts := [(0, 2)]) 1 (a_R (ts := []) 0 a_nil (s_getR ck11 11 (by decide) rfl (s_aload_n dX11_leaves_0 rfl rfl) dX11_leaves_1 w2_229) rfl) (s_getR ck11 2 (by decide) rfl (s_aload_n dX11_leaves_4 rfl rfl) dX11_leaves_5 w2_220) rfl) (s_getR ck11 5 (by decide) rfl (s_aload_n dX11_leaves_8 rfl rfl) dX11_leaves_9 w2_223) rfl) (s_iload_n dX11_leaves_12 rfl rfl) rfl) (s_iload_n dX11_leaves_13 rfl rfl) rfl) dX11_leaves_14 w5_193)) dX11_leaves_17 rfl rfl rfl) (t_sq (p1 := 24) (Γ' := [(0, 2), (1, 0), (2, 0), (3, 0)]) (t_if (pT := 22) (pF := 24) (X := [24]) (XA := []) (XB := [24]) (c_ne_ZF (pF := 24) (s_iload_n dX11_leaves_18 rfl rfl) dX11_leaves_19 rfl) (t_ret (cv := cvI) (fun _ _ => rfl) (s_iload_n dX11_leaves_22 rfl rfl) dX11_leaves_23) (t_skip (ld_in rfl) rfl) lda_nil (lda_cons (ld_in rfl) lda_nil)) (t_sq (p1 := 45) (Γ' := [(0, 2), (1, 0), (2, 0), (3, 0)]) (t_do (x_callV (ts := [(0, 2), (1, 2), (2, 2), (3, 0), (4, 0), (5, 2)]) ck7 rfl kX7_findFirsts mokX7_findFirsts w5_216 w5_217 rfl rfl rfl rfl (a_R (ts := [(0, 2), (1, 2), (2, 2), (3, 0), (4, 0)]) 5 (a_I (ts := [(0, 2), (1, 2), (2, 2), (3, 0)]) 4 (a_I (ts := [(0, 2), (1, 2), (2, 2)]) 3 (a_R (ts := [(0, 2), (1, 2)]) 2 (a_R (ts := [(0, 2)]) 1 (a_R (ts := []) 0 a_nil (s_getR ck11 11 (by decide) rfl (s_aload_n dX11_leaves_24 rfl rfl) dX11_leaves_25 w2_229) rfl) (s_getR ck11 2 (by decide) rfl (s_aload_n dX11_leaves_28 rfl rfl) dX11_leaves_29 w2_220) rfl) (s_getR ck11 5 (by decide) rfl (s_aload_n dX11_leaves_32 rfl rfl) dX11_leaves_33 w2_223) rfl) (s_iload_n dX11_leaves_36 rfl rfl) rfl) (s_iload_n dX11_leaves_37 rfl rfl) rfl) (s_getR ck11 7 (by decide) rfl (s_aload_n dX11_leaves_38 rfl rfl) dX11_leaves_39 w2_225) rfl) dX11_leaves_42 w5_215) rfl) (t_sq (p1 := 58) (Γ' := [(0, 2), (1, 0), (2, 0), (3, 0), (4, 0)]) (t_istore (s_of_xI (x_callV (ts := [(0, 2), (1, 2)]) ck7 rfl kX7_bestDay mokX7_bestDay w5_232 w5_233 rfl rfl rfl rfl (a_R (ts := [(0, 2)]) 1 (a_R (ts := []) 0 a_nil (s_getR ck11 11 (by decide) rfl (s_aload_n dX11_leaves_45 rfl rfl) dX11_leaves_46 w2_229) rfl) (s_getR ck11 2 (by decide) rfl (s_aload_n dX11_leaves_49 rfl rfl) dX11_leaves_50 w2_220) rfl) dX11_leaves_53 w5_231)) dX11_leaves_56 rfl rfl) (t_ret (cv := cvI) (fun _ _ => rfl) (s_T (pT := 64) (pF := 77) (p1 := 74) (pe := 86) (c_eq_F (pF := 77) (s_iload dX11_leaves_58 rfl) (s_iconst dX11_leaves_60 rfl) dX11_leaves_61 rfl) (s_of_xI (x_call (ts := [(0, 0)]) kJ6_bitCount_0f7a4 mokJ6_bitCount_0f7a4 w5_28 rfl rfl rfl (a_I (ts := []) 0 a_nil (s_getI ck7 0 (by decide) rfl (s_getR ck11 11 (by decide) rfl (s_aload_n dX11_leaves_64 rfl rfl) dX11_leaves_65 w2_229) dX11_leaves_68 w2_211) rfl) dX11_leaves_71 w5_27)) (s_of_xI (x_callV (ts := [(0, 2), (1, 0)]) ck7 rfl kX7_leftAtWorst mokX7_leftAtWorst w5_237 w5_238 rfl rfl rfl rfl (a_I (ts := [(0, 2)]) 1 (a_R (ts := []) 0 a_nil (s_getR ck11 11 (by decide) rfl (s_aload_n dX11_leaves_77 rfl rfl) dX11_leaves_78 w2_229) rfl) (s_iload dX11_leaves_81 rfl) rfl) dX11_leaves_83 w6_7)) (ld_goto (y := 86) dX11_leaves_74 rfl (ld_in rfl))) dX11_leaves_86)))))
noncomputable def DX11_leaves : Fr → St → Option (Int32 × St) := M1 (fun f => (sI (sI (sR fr0 0 (gR f 0)) 1 (gI f 1)) 2 (gI f 2))) BX11_leaves
theorem kX11_leaves : SND yX11_leaves cX11_leaves 5 (some .int) 8 [(0, 2), (1, 0), (2, 0)] cvoI DX11_leaves := snd_I (nw := 3) (by decide) rfl rfl (fun _ _ => rfl) sBX11_leaves
theorem dX11_laws_0 : decode cX11_laws 0 = .ok (.aload_n 0, 1) := by decide +kernel
theorem dX11_laws_1 : decode cX11_laws 1 = .ok (.getfield 78, 3) := by decide +kernel
theorem dX11_laws_4 : decode cX11_laws 4 = .ok (.aload_n 0, 1) := by decide +kernel
theorem dX11_laws_5 : decode cX11_laws 5 = .ok (.getfield 26, 3) := by decide +kernel
theorem dX11_laws_8 : decode cX11_laws 8 = .ok (.aload_n 0, 1) := by decide +kernel
theorem dX11_laws_9 : decode cX11_laws 9 = .ok (.getfield 40, 3) := by decide +kernel
theorem dX11_laws_12 : decode cX11_laws 12 = .ok (.iload_n 1, 1) := by decide +kernel
theorem dX11_laws_13 : decode cX11_laws 13 = .ok (.iload_n 2, 1) := by decide +kernel
theorem dX11_laws_14 : decode cX11_laws 14 = .ok (.invokevirtual 314, 3) := by decide +kernel
theorem dX11_laws_17 : decode cX11_laws 17 = .ok (.istore_n 3, 1) := by decide +kernel
theorem dX11_laws_18 : decode cX11_laws 18 = .ok (.iload_n 3, 1) := by decide +kernel
theorem dX11_laws_19 : decode cX11_laws 19 = .ok (.ifCond .eq 5, 3) := by decide +kernel
theorem dX11_laws_22 : decode cX11_laws 22 = .ok (.iload_n 3, 1) := by decide +kernel
theorem dX11_laws_23 : decode cX11_laws 23 = .ok (.ireturn, 1) := by decide +kernel
theorem dX11_laws_24 : decode cX11_laws 24 = .ok (.aload_n 0, 1) := by decide +kernel
theorem dX11_laws_25 : decode cX11_laws 25 = .ok (.getfield 26, 3) := by decide +kernel
theorem dX11_laws_28 : decode cX11_laws 28 = .ok (.iload_n 2, 1) := by decide +kernel
theorem dX11_laws_29 : decode cX11_laws 29 = .ok (.aload_n 0, 1) := by decide +kernel
theorem dX11_laws_30 : decode cX11_laws 30 = .ok (.invokevirtual 167, 3) := by decide +kernel
theorem dX11_laws_33 : decode cX11_laws 33 = .ok (.iload_n 2, 1) := by decide +kernel
theorem dX11_laws_34 : decode cX11_laws 34 = .ok (.aload_n 0, 1) := by decide +kernel
theorem dX11_laws_35 : decode cX11_laws 35 = .ok (.getfield 26, 3) := by decide +kernel
theorem dX11_laws_38 : decode cX11_laws 38 = .ok (.getfield 200, 3) := by decide +kernel
theorem dX11_laws_41 : decode cX11_laws 41 = .ok (.invokevirtual 180, 3) := by decide +kernel
theorem dX11_laws_44 : decode cX11_laws 44 = .ok (.invokevirtual 183, 3) := by decide +kernel
theorem dX11_laws_47 : decode cX11_laws 47 = .ok (.istore 4, 2) := by decide +kernel
theorem dX11_laws_49 : decode cX11_laws 49 = .ok (.iconst 0, 1) := by decide +kernel
theorem dX11_laws_50 : decode cX11_laws 50 = .ok (.istore 5, 2) := by decide +kernel
theorem dX11_laws_52 : decode cX11_laws 52 = .ok (.iconst 0, 1) := by decide +kernel
theorem dX11_laws_53 : decode cX11_laws 53 = .ok (.istore 6, 2) := by decide +kernel
theorem dX11_laws_55 : decode cX11_laws 55 = .ok (.iload 6, 2) := by decide +kernel
theorem dX11_laws_57 : decode cX11_laws 57 = .ok (.iconst 4, 1) := by decide +kernel
theorem dX11_laws_58 : decode cX11_laws 58 = .ok (.if_icmp .ge 115, 3) := by decide +kernel
theorem dX11_laws_61 : decode cX11_laws 61 = .ok (.aload_n 0, 1) := by decide +kernel
theorem dX11_laws_62 : decode cX11_laws 62 = .ok (.getfield 51, 3) := by decide +kernel
theorem dX11_laws_65 : decode cX11_laws 65 = .ok (.getfield 332, 3) := by decide +kernel
theorem dX11_laws_68 : decode cX11_laws 68 = .ok (.aload_n 0, 1) := by decide +kernel
theorem dX11_laws_69 : decode cX11_laws 69 = .ok (.getfield 26, 3) := by decide +kernel
theorem dX11_laws_72 : decode cX11_laws 72 = .ok (.invokevirtual 336, 3) := by decide +kernel
theorem dX11_laws_75 : decode cX11_laws 75 = .ok (.aload_n 0, 1) := by decide +kernel
theorem dX11_laws_76 : decode cX11_laws 76 = .ok (.getfield 51, 3) := by decide +kernel
theorem dX11_laws_79 : decode cX11_laws 79 = .ok (.getfield 332, 3) := by decide +kernel
theorem dX11_laws_82 : decode cX11_laws 82 = .ok (.iload 6, 2) := by decide +kernel
theorem dX11_laws_84 : decode cX11_laws 84 = .ok (.putfield 341, 3) := by decide +kernel
theorem dX11_laws_87 : decode cX11_laws 87 = .ok (.aload_n 0, 1) := by decide +kernel
theorem dX11_laws_88 : decode cX11_laws 88 = .ok (.getfield 51, 3) := by decide +kernel
theorem dX11_laws_91 : decode cX11_laws 91 = .ok (.aload_n 0, 1) := by decide +kernel
theorem dX11_laws_92 : decode cX11_laws 92 = .ok (.getfield 26, 3) := by decide +kernel
theorem dX11_laws_95 : decode cX11_laws 95 = .ok (.invokevirtual 344, 3) := by decide +kernel
theorem dX11_laws_98 : decode cX11_laws 98 = .ok (.aload_n 0, 1) := by decide +kernel
theorem dX11_laws_99 : decode cX11_laws 99 = .ok (.getfield 26, 3) := by decide +kernel
theorem dX11_laws_102 : decode cX11_laws 102 = .ok (.iload_n 2, 1) := by decide +kernel
theorem dX11_laws_103 : decode cX11_laws 103 = .ok (.aload_n 0, 1) := by decide +kernel
theorem dX11_laws_104 : decode cX11_laws 104 = .ok (.getfield 51, 3) := by decide +kernel
theorem dX11_laws_107 : decode cX11_laws 107 = .ok (.iload_n 2, 1) := by decide +kernel
theorem dX11_laws_108 : decode cX11_laws 108 = .ok (.aload_n 0, 1) := by decide +kernel
theorem dX11_laws_109 : decode cX11_laws 109 = .ok (.getfield 26, 3) := by decide +kernel
theorem dX11_laws_112 : decode cX11_laws 112 = .ok (.getfield 200, 3) := by decide +kernel
theorem dX11_laws_115 : decode cX11_laws 115 = .ok (.invokevirtual 180, 3) := by decide +kernel
theorem dX11_laws_118 : decode cX11_laws 118 = .ok (.invokevirtual 183, 3) := by decide +kernel
theorem dX11_laws_121 : decode cX11_laws 121 = .ok (.iload 4, 2) := by decide +kernel
theorem dX11_laws_123 : decode cX11_laws 123 = .ok (.if_icmp .ne 7, 3) := by decide +kernel
theorem dX11_laws_126 : decode cX11_laws 126 = .ok (.iconst 1, 1) := by decide +kernel
theorem dX11_laws_127 : decode cX11_laws 127 = .ok (.goto 4, 3) := by decide +kernel
theorem dX11_laws_130 : decode cX11_laws 130 = .ok (.iconst 0, 1) := by decide +kernel
theorem dX11_laws_131 : decode cX11_laws 131 = .ok (.istore 7, 2) := by decide +kernel
theorem dX11_laws_133 : decode cX11_laws 133 = .ok (.iload 7, 2) := by decide +kernel
theorem dX11_laws_135 : decode cX11_laws 135 = .ok (.ifCond .eq 32, 3) := by decide +kernel
theorem dX11_laws_138 : decode cX11_laws 138 = .ok (.aload_n 0, 1) := by decide +kernel
theorem dX11_laws_139 : decode cX11_laws 139 = .ok (.getfield 78, 3) := by decide +kernel
theorem dX11_laws_142 : decode cX11_laws 142 = .ok (.aload_n 0, 1) := by decide +kernel
theorem dX11_laws_143 : decode cX11_laws 143 = .ok (.getfield 40, 3) := by decide +kernel
theorem dX11_laws_146 : decode cX11_laws 146 = .ok (.iload_n 1, 1) := by decide +kernel
theorem dX11_laws_147 : decode cX11_laws 147 = .ok (.iload_n 2, 1) := by decide +kernel
theorem dX11_laws_148 : decode cX11_laws 148 = .ok (.aload_n 0, 1) := by decide +kernel
theorem dX11_laws_149 : decode cX11_laws 149 = .ok (.getfield 51, 3) := by decide +kernel
theorem dX11_laws_152 : decode cX11_laws 152 = .ok (.invokevirtual 347, 3) := by decide +kernel
theorem dX11_laws_155 : decode cX11_laws 155 = .ok (.ifCond .eq 12, 3) := by decide +kernel
theorem dX11_laws_158 : decode cX11_laws 158 = .ok (.iload 5, 2) := by decide +kernel
theorem dX11_laws_160 : decode cX11_laws 160 = .ok (.iconst 1, 1) := by decide +kernel
theorem dX11_laws_161 : decode cX11_laws 161 = .ok (.iload 6, 2) := by decide +kernel
theorem dX11_laws_163 : decode cX11_laws 163 = .ok (.ishl, 1) := by decide +kernel
theorem dX11_laws_164 : decode cX11_laws 164 = .ok (.ior, 1) := by decide +kernel
theorem dX11_laws_165 : decode cX11_laws 165 = .ok (.istore 5, 2) := by decide +kernel
theorem dX11_laws_167 : decode cX11_laws 167 = .ok (.iinc 6 1, 3) := by decide +kernel
theorem dX11_laws_170 : decode cX11_laws 170 = .ok (.goto (-115), 3) := by decide +kernel
theorem dX11_laws_173 : decode cX11_laws 173 = .ok (.iload 5, 2) := by decide +kernel
theorem dX11_laws_175 : decode cX11_laws 175 = .ok (.ireturn, 1) := by decide +kernel
theorem mokX11_laws : MOK yX11_laws cX11_laws 8 (some .int) 2 := ⟨w6_11, w1_1, ⟨by decide, by decide⟩, by decide +kernel, by decide⟩
abbrev miX11_laws : MI := (yX11_laws.cls, cX11_laws, 8, 8, false)
noncomputable def LX11_laws_1 : Sm Int32 := dLoop (fun f => (sI (sI (sI (sI (sI (sI (sR fr0 0 (gR f 0)) 1 (gI f 1)) 2 (gI f 2)) 3 (gI f 3)) 4 (gI f 4)) 5 (gI f 5)) 6 (gI f 6))) (dCI r_lt (vI 6) (cI 4)) (dSeq (dDo (dCallV 2 DX2_setAsTold (aR (aR aN 0 (dGR 3 1 (dGR 11 7 (vR 0)))) 1 (dGR 11 2 (vR 0))))) (dSeq (dP (fI 2 0) (dGR 3 1 (dGR 11 7 (vR 0))) (vI 6)) (dSeq (dDo (dCallV 3 DX3_fill (aR (aR aN 0 (dGR 11 7 (vR 0))) 1 (dGR 11 2 (vR 0))))) (dSeq (dSetI 7 (dB (dCI r_eq (dCallV 5 DX5_weightOf (aI (aI (aR aN 0 (dGR 11 2 (vR 0))) 1 (vI 2)) 2 (dCallV 3 DX3_leftOn (aI (aI (aR aN 0 (dGR 11 7 (vR 0))) 1 (vI 2)) 2 (dGI 5 1 (dGR 11 2 (vR 0))))))) (vI 4)))) (dIf (dAnd (dCZ q_ne (vI 7)) (dCZ q_ne (dCallV 7 DX7_isAsSeen (aR (aI (aI (aR (aR aN 0 (dGR 11 11 (vR 0))) 1 (dGR 11 5 (vR 0))) 2 (vI 1)) 3 (vI 2)) 4 (dGR 11 7 (vR 0)))))) (dSetI 5 (d2 o_ior (vI 5) (d2 o_ishl (cI 1) (vI 6)))) dSkip))))) (dInc 6 1)
theorem sLX11_laws_1 {ΓL : Gm} {PB PK : List Nat} : SS (cvoI, .ireturn) miX11_laws ΓL PB PK [(0, 2), (1, 0), (2, 0), (3, 0), (4, 0), (5, 0), (6, 0)] [(0, 2), (1, 0), (2, 0), (3, 0), (4, 0), (5, 0), (6, 0)] 55 [173] LX11_laws_1 := t_loop (pT := 61) (pF := 173) (pu := 167) (PB' := []) (PK' := []) (XB := [167]) (XU := [170]) (fun _ _ => rfl) rfl (c_lt_F (pF := 173) (s_iload dX11_laws_55 rfl) (s_iconst dX11_laws_57 rfl) dX11_laws_58 rfl) (t_sq (p1 := 75) (Γ' := [(0, 2), (1, 0), (2, 0), (3, 0), (4, 0), (5, 0), (6, 0)]) (t_do (x_callV (ts := [(0, 2), (1, 2)]) ck2 rfl kX2_setAsTold mokX2_setAsTold w4_84 w4_85 rfl rfl rfl rfl (a_R (ts := [(0, 2)]) 1 (a_R (ts := []) 0 a_nil (s_getR ck3 1 (by decide) rfl (s_getR ck11 7 (by decide) rfl (s_aload_n dX11_laws_61 rfl rfl) dX11_laws_62 w2_225) dX11_laws_65 w2_91) rfl) (s_getR ck11 2 (by decide) rfl (s_aload_n dX11_laws_68 rfl rfl) dX11_laws_69 w2_220) rfl) dX11_laws_72 w4_83) rfl) (t_sq (p1 := 87) (Γ' := [(0, 2), (1, 0), (2, 0), (3, 0), (4, 0), (5, 0), (6, 0)]) (t_pI ck2 0 (by decide) rfl (Or.inl rfl) (s_getR ck3 1 (by decide) rfl (s_getR ck11 7 (by decide) rfl (s_aload_n dX11_laws_75 rfl rfl) dX11_laws_76 w2_225) dX11_laws_79 w2_91) (s_iload dX11_laws_82 rfl) dX11_laws_84 w2_27 rfl) (t_sq (p1 := 98) (Γ' := [(0, 2), (1, 0), (2, 0), (3, 0), (4, 0), (5, 0), (6, 0)]) (t_do (x_callV (ts := [(0, 2), (1, 2)]) ck3 rfl kX3_fill mokX3_fill w4_88 w4_89 rfl rfl rfl rfl (a_R (ts := [(0, 2)]) 1 (a_R (ts := []) 0 a_nil (s_getR ck11 7 (by decide) rfl (s_aload_n dX11_laws_87 rfl rfl) dX11_laws_88 w2_225) rfl) (s_getR ck11 2 (by decide) rfl (s_aload_n dX11_laws_91 rfl rfl) dX11_laws_92 w2_220) rfl) dX11_laws_95 w4_87) rfl) (t_sq (p1 := 133) (Γ' := [(0, 2), (1, 0), (2, 0), (3, 0), (4, 0), (5, 0), (6, 0), (7, 0)]) (t_istore (s_B (pT := 126) (pF := 130) (pe := 131) (c_eq_F (pF := 130) (s_of_xI (x_callV (ts := [(0, 2), (1, 0), (2, 0)]) ck5 rfl kX5_weightOf mokX5_weightOf w4_131 w4_132 rfl rfl rfl rfl (a_I (ts := [(0, 2), (1, 0)]) 2 (a_I (ts := [(0, 2)]) 1 (a_R (ts := []) 0 a_nil (s_getR ck11 2 (by decide) rfl (s_aload_n dX11_laws_98 rfl rfl) dX11_laws_99 w2_220) rfl) (s_iload_n dX11_laws_102 rfl rfl) rfl) (s_of_xI (x_callV (ts := [(0, 2), (1, 0), (2, 0)]) ck3 rfl kX3_leftOn mokX3_leftOn w4_167 w4_168 rfl rfl rfl rfl (a_I (ts := [(0, 2), (1, 0)]) 2 (a_I (ts := [(0, 2)]) 1 (a_R (ts := []) 0 a_nil (s_getR ck11 7 (by decide) rfl (s_aload_n dX11_laws_103 rfl rfl) dX11_laws_104 w2_225) rfl) (s_iload_n dX11_laws_107 rfl rfl) rfl) (s_getI ck5 1 (by decide) rfl (s_getR ck11 2 (by decide) rfl (s_aload_n dX11_laws_108 rfl rfl) dX11_laws_109 w2_220) dX11_laws_112 w1_139) rfl) dX11_laws_115 w4_166)) rfl) dX11_laws_118 w4_174)) (s_iload dX11_laws_121 rfl) dX11_laws_123 rfl) dX11_laws_126 dX11_laws_127 rfl dX11_laws_130 rfl) dX11_laws_131 rfl rfl) (t_if (pT := 158) (pF := 167) (X := [167]) (XA := [167]) (XB := [167]) (c_and (p1 := 138) (pT := 158) (pF := 167) (c_ne_ZF (pF := 167) (s_iload dX11_laws_133 rfl) dX11_laws_135 rfl) (c_ne_ZF (pF := 167) (s_of_xI (x_callV (ts := [(0, 2), (1, 2), (2, 0), (3, 0), (4, 2)]) ck7 rfl kX7_isAsSeen mokX7_isAsSeen w5_224 w5_225 rfl rfl rfl rfl (a_R (ts := [(0, 2), (1, 2), (2, 0), (3, 0)]) 4 (a_I (ts := [(0, 2), (1, 2), (2, 0)]) 3 (a_I (ts := [(0, 2), (1, 2)]) 2 (a_R (ts := [(0, 2)]) 1 (a_R (ts := []) 0 a_nil (s_getR ck11 11 (by decide) rfl (s_aload_n dX11_laws_138 rfl rfl) dX11_laws_139 w2_229) rfl) (s_getR ck11 5 (by decide) rfl (s_aload_n dX11_laws_142 rfl rfl) dX11_laws_143 w2_223) rfl) (s_iload_n dX11_laws_146 rfl rfl) rfl) (s_iload_n dX11_laws_147 rfl rfl) rfl) (s_getR ck11 7 (by decide) rfl (s_aload_n dX11_laws_148 rfl rfl) dX11_laws_149 w2_225) rfl) dX11_laws_152 w6_12)) dX11_laws_155 rfl)) (t_istore (s_ior (s_iload dX11_laws_158 rfl) (s_ishl (s_iconst dX11_laws_160 rfl) (s_iload dX11_laws_161 rfl) dX11_laws_163) dX11_laws_164) dX11_laws_165 rfl rfl) (t_skip (ld_in rfl) rfl) (lda_cons (ld_in rfl) lda_nil) (lda_cons (ld_in rfl) lda_nil)))))) (t_iinc dX11_laws_167 rfl rfl rfl rfl) (lda_cons (ld_in rfl) lda_nil) lda_nil (lda_cons (ld_goto (y := 55) dX11_laws_170 rfl (ld_in rfl)) lda_nil) (ld_in rfl) lda_nil
noncomputable def BX11_laws : Sm Int32 := (dSeq (dSetI 3 (dCallV 7 DX7_wrongRow (aI (aI (aR (aR (aR aN 0 (dGR 11 11 (vR 0))) 1 (dGR 11 2 (vR 0))) 2 (dGR 11 5 (vR 0))) 3 (vI 1)) 4 (vI 2)))) (dSeq (dIf (dCZ q_ne (vI 3)) (dRet (vI 3)) dSkip) (dSeq (dSetI 4 (dCallV 5 DX5_weightOf (aI (aI (aR aN 0 (dGR 11 2 (vR 0))) 1 (vI 2)) 2 (dCallV 3 DX3_leftOn (aI (aI (aR aN 0 (dCallV 11 DX11_today (aR aN 0 (vR 0)))) 1 (vI 2)) 2 (dGI 5 1 (dGR 11 2 (vR 0)))))))) (dSeq (dSetI 5 (cI 0)) (dSeq (dSeq (dSetI 6 (cI 0)) LX11_laws_1) (dRet (vI 5)))))))
theorem sBX11_laws : SS (cvoI, .ireturn) miX11_laws [] [] [] [(0, 2), (1, 0), (2, 0)] [(0, 2), (1, 0), (2, 0)] 0 [] BX11_laws := (t_sq (p1 := 18) (Γ' := [(0, 2), (1, 0), (2, 0), (3, 0)]) (t_istore_n (s_of_xI (x_callV (ts := [(0, 2), (1, 2), (2, 2), (3, 0), (4, 0)]) ck7 rfl kX7_wrongRow mokX7_wrongRow w5_194 w5_195 rfl rfl rfl rfl (a_I (ts := [(0, 2), (1, 2), (2, 2), (3, 0)]) 4 (a_I (ts := [(0, 2), (1, 2), (2, 2)]) 3 (a_R (ts := [(0, 2), (1, 2)]) 2 (a_R (ts := [(0, 2)]) 1 (a_R (ts := []) 0 a_nil (s_getR ck11 11 (by decide) rfl (s_aload_n dX11_laws_0 rfl rfl) dX11_laws_1 w2_229) rfl) (s_getR ck11 2 (by decide) rfl (s_aload_n dX11_laws_4 rfl rfl) dX11_laws_5 w2_220) rfl) (s_getR ck11 5 (by decide) rfl (s_aload_n dX11_laws_8 rfl rfl) dX11_laws_9 w2_223) rfl) (s_iload_n dX11_laws_12 rfl rfl) rfl) (s_iload_n dX11_laws_13 rfl rfl) rfl) dX11_laws_14 w5_193)) dX11_laws_17 rfl rfl rfl) (t_sq (p1 := 24) (Γ' := [(0, 2), (1, 0), (2, 0), (3, 0)]) (t_if (pT := 22) (pF := 24) (X := [24]) (XA := []) (XB := [24]) (c_ne_ZF (pF := 24) (s_iload_n dX11_laws_18 rfl rfl) dX11_laws_19 rfl) (t_ret (cv := cvI) (fun _ _ => rfl) (s_iload_n dX11_laws_22 rfl rfl) dX11_laws_23) (t_skip (ld_in rfl) rfl) lda_nil (lda_cons (ld_in rfl) lda_nil)) (t_sq (p1 := 49) (Γ' := [(0, 2), (1, 0), (2, 0), (3, 0), (4, 0)]) (t_istore (s_of_xI (x_callV (ts := [(0, 2), (1, 0), (2, 0)]) ck5 rfl kX5_weightOf mokX5_weightOf w4_131 w4_132 rfl rfl rfl rfl (a_I (ts := [(0, 2), (1, 0)]) 2 (a_I (ts := [(0, 2)]) 1 (a_R (ts := []) 0 a_nil (s_getR ck11 2 (by decide) rfl (s_aload_n dX11_laws_24 rfl rfl) dX11_laws_25 w2_220) rfl) (s_iload_n dX11_laws_28 rfl rfl) rfl) (s_of_xI (x_callV (ts := [(0, 2), (1, 0), (2, 0)]) ck3 rfl kX3_leftOn mokX3_leftOn w4_167 w4_168 rfl rfl rfl rfl (a_I (ts := [(0, 2), (1, 0)]) 2 (a_I (ts := [(0, 2)]) 1 (a_R (ts := []) 0 a_nil (s_of_xR (x_callV (ts := [(0, 2)]) ck11 rfl kX11_today mokX11_today w4_81 ps2_0 rfl rfl rfl rfl (a_R (ts := []) 0 a_nil (s_aload_n dX11_laws_29 rfl rfl) rfl) dX11_laws_30 w4_79)) rfl) (s_iload_n dX11_laws_33 rfl rfl) rfl) (s_getI ck5 1 (by decide) rfl (s_getR ck11 2 (by decide) rfl (s_aload_n dX11_laws_34 rfl rfl) dX11_laws_35 w2_220) dX11_laws_38 w1_139) rfl) dX11_laws_41 w4_166)) rfl) dX11_laws_44 w4_174)) dX11_laws_47 rfl rfl) (t_sq (p1 := 52) (Γ' := [(0, 2), (1, 0), (2, 0), (3, 0), (4, 0), (5, 0)]) (t_istore (s_iconst dX11_laws_49 rfl) dX11_laws_50 rfl rfl) (t_sq (p1 := 173) (Γ' := [(0, 2), (1, 0), (2, 0), (3, 0), (4, 0), (5, 0)]) (t_sq (p1 := 55) (Γ' := [(0, 2), (1, 0), (2, 0), (3, 0), (4, 0), (5, 0), (6, 0)]) (t_istore (s_iconst dX11_laws_52 rfl) dX11_laws_53 rfl rfl) (tn_to (Γ' := [(0, 2), (1, 0), (2, 0), (3, 0), (4, 0), (5, 0), (6, 0)]) (XA := [173]) sLX11_laws_1 (lda_cons (ld_in rfl) lda_nil) rfl)) (t_ret (cv := cvI) (fun _ _ => rfl) (s_iload dX11_laws_173 rfl) dX11_laws_175))))))
noncomputable def DX11_laws : Fr → St → Option (Int32 × St) := M1 (fun f => (sI (sI (sR fr0 0 (gR f 0)) 1 (gI f 1)) 2 (gI f 2))) BX11_laws
theorem kX11_laws : SND yX11_laws cX11_laws 8 (some .int) 8 [(0, 2), (1, 0), (2, 0)] cvoI DX11_laws := snd_I (nw := 3) (by decide) rfl rfl (fun _ _ => rfl) sBX11_laws
theorem dX11_beside_0 : decode cX11_beside 0 = .ok (.aload_n 0, 1) := by decide +kernel
theorem dX11_beside_1 : decode cX11_beside 1 = .ok (.getfield 26, 3) := by decide +kernel
theorem dX11_beside_4 : decode cX11_beside 4 = .ok (.iload_n 1, 1) := by decide +kernel
theorem dX11_beside_5 : decode cX11_beside 5 = .ok (.invokevirtual 140, 3) := by decide +kernel
theorem dX11_beside_8 : decode cX11_beside 8 = .ok (.ifCond .ne 6, 3) := by decide +kernel
theorem dX11_beside_11 : decode cX11_beside 11 = .ok (.bipush (-2), 2) := by decide +kernel
theorem dX11_beside_13 : decode cX11_beside 13 = .ok (.ireturn, 1) := by decide +kernel
theorem dX11_beside_14 : decode cX11_beside 14 = .ok (.iconst (-1), 1) := by decide +kernel
theorem dX11_beside_15 : decode cX11_beside 15 = .ok (.istore_n 2, 1) := by decide +kernel
theorem dX11_beside_16 : decode cX11_beside 16 = .ok (.iconst 0, 1) := by decide +kernel
theorem dX11_beside_17 : decode cX11_beside 17 = .ok (.istore_n 3, 1) := by decide +kernel
theorem dX11_beside_18 : decode cX11_beside 18 = .ok (.iconst 0, 1) := by decide +kernel
theorem dX11_beside_19 : decode cX11_beside 19 = .ok (.istore 4, 2) := by decide +kernel
theorem dX11_beside_21 : decode cX11_beside 21 = .ok (.iload 4, 2) := by decide +kernel
theorem dX11_beside_23 : decode cX11_beside 23 = .ok (.aload_n 0, 1) := by decide +kernel
theorem dX11_beside_24 : decode cX11_beside 24 = .ok (.getfield 26, 3) := by decide +kernel
theorem dX11_beside_27 : decode cX11_beside 27 = .ok (.getfield 193, 3) := by decide +kernel
theorem dX11_beside_30 : decode cX11_beside 30 = .ok (.if_icmp .ge 59, 3) := by decide +kernel
theorem dX11_beside_33 : decode cX11_beside 33 = .ok (.aload_n 0, 1) := by decide +kernel
theorem dX11_beside_34 : decode cX11_beside 34 = .ok (.invokevirtual 167, 3) := by decide +kernel
theorem dX11_beside_37 : decode cX11_beside 37 = .ok (.iload 4, 2) := by decide +kernel
theorem dX11_beside_39 : decode cX11_beside 39 = .ok (.iload_n 1, 1) := by decide +kernel
theorem dX11_beside_40 : decode cX11_beside 40 = .ok (.aload_n 0, 1) := by decide +kernel
theorem dX11_beside_41 : decode cX11_beside 41 = .ok (.getfield 26, 3) := by decide +kernel
theorem dX11_beside_44 : decode cX11_beside 44 = .ok (.getfield 200, 3) := by decide +kernel
theorem dX11_beside_47 : decode cX11_beside 47 = .ok (.invokevirtual 186, 3) := by decide +kernel
theorem dX11_beside_50 : decode cX11_beside 50 = .ok (.invokestatic 243, 3) := by decide +kernel
theorem dX11_beside_53 : decode cX11_beside 53 = .ok (.istore 5, 2) := by decide +kernel
theorem dX11_beside_55 : decode cX11_beside 55 = .ok (.iload 4, 2) := by decide +kernel
theorem dX11_beside_57 : decode cX11_beside 57 = .ok (.aload_n 0, 1) := by decide +kernel
theorem dX11_beside_58 : decode cX11_beside 58 = .ok (.getfield 26, 3) := by decide +kernel
theorem dX11_beside_61 : decode cX11_beside 61 = .ok (.getfield 351, 3) := by decide +kernel
theorem dX11_beside_64 : decode cX11_beside 64 = .ok (.iload_n 1, 1) := by decide +kernel
theorem dX11_beside_65 : decode cX11_beside 65 = .ok (.invokestatic 124, 3) := by decide +kernel
theorem dX11_beside_68 : decode cX11_beside 68 = .ok (.if_icmp .eq 15, 3) := by decide +kernel
theorem dX11_beside_71 : decode cX11_beside 71 = .ok (.iload 5, 2) := by decide +kernel
theorem dX11_beside_73 : decode cX11_beside 73 = .ok (.iload_n 3, 1) := by decide +kernel
theorem dX11_beside_74 : decode cX11_beside 74 = .ok (.if_icmp .le 9, 3) := by decide +kernel
theorem dX11_beside_77 : decode cX11_beside 77 = .ok (.iload 5, 2) := by decide +kernel
theorem dX11_beside_79 : decode cX11_beside 79 = .ok (.istore_n 3, 1) := by decide +kernel
theorem dX11_beside_80 : decode cX11_beside 80 = .ok (.iload 4, 2) := by decide +kernel
theorem dX11_beside_82 : decode cX11_beside 82 = .ok (.istore_n 2, 1) := by decide +kernel
theorem dX11_beside_83 : decode cX11_beside 83 = .ok (.iinc 4 1, 3) := by decide +kernel
theorem dX11_beside_86 : decode cX11_beside 86 = .ok (.goto (-65), 3) := by decide +kernel
theorem dX11_beside_89 : decode cX11_beside 89 = .ok (.iload_n 2, 1) := by decide +kernel
theorem dX11_beside_90 : decode cX11_beside 90 = .ok (.ireturn, 1) := by decide +kernel
theorem mokX11_beside : MOK yX11_beside cX11_beside 6 (some .int) 1 := ⟨w6_16, w1_1, ⟨by decide, by decide⟩, by decide +kernel, by decide⟩
abbrev miX11_beside : MI := (yX11_beside.cls, cX11_beside, 6, 8, false)
noncomputable def LX11_beside_1 : Sm Int32 := dLoop (fun f => (sI (sI (sI (sI (sR fr0 0 (gR f 0)) 1 (gI f 1)) 2 (gI f 2)) 3 (gI f 3)) 4 (gI f 4))) (dCI r_lt (vI 4) (dGI 5 4 (dGR 11 2 (vR 0)))) (dSeq (dSetI 5 (dCall DJ6_bitCount_0f7a4 (aI aN 0 (dCallV 3 DX3_knownOn (aI (aI (aI (aR aN 0 (dCallV 11 DX11_today (aR aN 0 (vR 0)))) 1 (vI 4)) 2 (vI 1)) 3 (dGI 5 1 (dGR 11 2 (vR 0)))))))) (dIf (dAnd (dCI r_ne (vI 4) (dCall DX11_cell (aI (aR aN 0 (dGR 5 13 (dGR 11 2 (vR 0)))) 1 (vI 1)))) (dCI r_gt (vI 5) (vI 3))) (dSeq (dSetI 3 (vI 5)) (dSetI 2 (vI 4))) dSkip)) (dInc 4 1)
theorem sLX11_beside_1 {ΓL : Gm} {PB PK : List Nat} : SS (cvoI, .ireturn) miX11_beside ΓL PB PK [(0, 2), (1, 0), (2, 0), (3, 0), (4, 0)] [(0, 2), (1, 0), (2, 0), (3, 0), (4, 0)] 21 [89] LX11_beside_1 := t_loop (pT := 33) (pF := 89) (pu := 83) (PB' := []) (PK' := []) (XB := [83]) (XU := [86]) (fun _ _ => rfl) rfl (c_lt_F (pF := 89) (s_iload dX11_beside_21 rfl) (s_getI ck5 4 (by decide) rfl (s_getR ck11 2 (by decide) rfl (s_aload_n dX11_beside_23 rfl rfl) dX11_beside_24 w2_220) dX11_beside_27 w1_156) dX11_beside_30 rfl) (t_sq (p1 := 55) (Γ' := [(0, 2), (1, 0), (2, 0), (3, 0), (4, 0), (5, 0)]) (t_istore (s_of_xI (x_call (ts := [(0, 0)]) kJ6_bitCount_0f7a4 mokJ6_bitCount_0f7a4 w5_28 rfl rfl rfl (a_I (ts := []) 0 a_nil (s_of_xI (x_callV (ts := [(0, 2), (1, 0), (2, 0), (3, 0)]) ck3 rfl kX3_knownOn mokX3_knownOn w4_180 w4_181 rfl rfl rfl rfl (a_I (ts := [(0, 2), (1, 0), (2, 0)]) 3 (a_I (ts := [(0, 2), (1, 0)]) 2 (a_I (ts := [(0, 2)]) 1 (a_R (ts := []) 0 a_nil (s_of_xR (x_callV (ts := [(0, 2)]) ck11 rfl kX11_today mokX11_today w4_81 ps2_0 rfl rfl rfl rfl (a_R (ts := []) 0 a_nil (s_aload_n dX11_beside_33 rfl rfl) rfl) dX11_beside_34 w4_79)) rfl) (s_iload dX11_beside_37 rfl) rfl) (s_iload_n dX11_beside_39 rfl rfl) rfl) (s_getI ck5 1 (by decide) rfl (s_getR ck11 2 (by decide) rfl (s_aload_n dX11_beside_40 rfl rfl) dX11_beside_41 w2_220) dX11_beside_44 w1_139) rfl) dX11_beside_47 w4_179)) rfl) dX11_beside_50 w5_27)) dX11_beside_53 rfl rfl) (t_if (pT := 77) (pF := 83) (X := [83]) (XA := [83]) (XB := [83]) (c_and (p1 := 71) (pT := 77) (pF := 83) (c_ne_F (pF := 83) (s_iload dX11_beside_55 rfl) (s_of_xI (x_call (ts := [(0, 2), (1, 0)]) kX11_cell mokX11_cell w3_229 rfl rfl rfl (a_I (ts := [(0, 2)]) 1 (a_R (ts := []) 0 a_nil (s_getR ck5 13 (by decide) rfl (s_getR ck11 2 (by decide) rfl (s_aload_n dX11_beside_57 rfl rfl) dX11_beside_58 w2_220) dX11_beside_61 w1_191) rfl) (s_iload_n dX11_beside_64 rfl rfl) rfl) dX11_beside_65 w3_228)) dX11_beside_68 rfl) (c_gt_F (pF := 83) (s_iload dX11_beside_71 rfl) (s_iload_n dX11_beside_73 rfl rfl) dX11_beside_74 rfl)) (t_sq (p1 := 80) (Γ' := [(0, 2), (1, 0), (2, 0), (3, 0), (4, 0), (5, 0)]) (t_istore_n (s_iload dX11_beside_77 rfl) dX11_beside_79 rfl rfl rfl) (t_istore_n (s_iload dX11_beside_80 rfl) dX11_beside_82 rfl rfl rfl)) (t_skip (ld_in rfl) rfl) (lda_cons (ld_in rfl) lda_nil) (lda_cons (ld_in rfl) lda_nil))) (t_iinc dX11_beside_83 rfl rfl rfl rfl) (lda_cons (ld_in rfl) lda_nil) lda_nil (lda_cons (ld_goto (y := 21) dX11_beside_86 rfl (ld_in rfl)) lda_nil) (ld_in rfl) lda_nil
noncomputable def BX11_beside : Sm Int32 := (dSeq (dIf (dNot (dCZ q_ne (dCallV 5 DX5_isSlate (aI (aR aN 0 (dGR 11 2 (vR 0))) 1 (vI 1))))) (dRet (cI (-2))) dSkip) (dSeq (dSetI 2 (cI (-1))) (dSeq (dSetI 3 (cI 0)) (dSeq (dSeq (dSetI 4 (cI 0)) LX11_beside_1) (dRet (vI 2))))))
theorem sBX11_beside : SS (cvoI, .ireturn) miX11_beside [] [] [] [(0, 2), (1, 0)] [(0, 2), (1, 0)] 0 [] BX11_beside := (t_sq (p1 := 14) (Γ' := [(0, 2), (1, 0)]) (t_if (pT := 11) (pF := 14) (X := [14]) (XA := []) (XB := [14]) (c_not (pT := 11) (pF := 14) (c_ne_ZJ (pT := 14) (s_of_xI (x_callV (ts := [(0, 2), (1, 0)]) ck5 rfl kX5_isSlate mokX5_isSlate w4_7 w4_8 rfl rfl rfl rfl (a_I (ts := [(0, 2)]) 1 (a_R (ts := []) 0 a_nil (s_getR ck11 2 (by decide) rfl (s_aload_n dX11_beside_0 rfl rfl) dX11_beside_1 w2_220) rfl) (s_iload_n dX11_beside_4 rfl rfl) rfl) dX11_beside_5 w4_6)) dX11_beside_8 rfl)) (t_ret (cv := cvI) (fun _ _ => rfl) (s_bipush dX11_beside_11 rfl) dX11_beside_13) (t_skip (ld_in rfl) rfl) lda_nil (lda_cons (ld_in rfl) lda_nil)) (t_sq (p1 := 16) (Γ' := [(0, 2), (1, 0), (2, 0)]) (t_istore_n (s_iconst dX11_beside_14 rfl) dX11_beside_15 rfl rfl rfl) (t_sq (p1 := 18) (Γ' := [(0, 2), (1, 0), (2, 0), (3, 0)]) (t_istore_n (s_iconst dX11_beside_16 rfl) dX11_beside_17 rfl rfl rfl) (t_sq (p1 := 89) (Γ' := [(0, 2), (1, 0), (2, 0), (3, 0)]) (t_sq (p1 := 21) (Γ' := [(0, 2), (1, 0), (2, 0), (3, 0), (4, 0)]) (t_istore (s_iconst dX11_beside_18 rfl) dX11_beside_19 rfl rfl) (tn_to (Γ' := [(0, 2), (1, 0), (2, 0), (3, 0), (4, 0)]) (XA := [89]) sLX11_beside_1 (lda_cons (ld_in rfl) lda_nil) rfl)) (t_ret (cv := cvI) (fun _ _ => rfl) (s_iload_n dX11_beside_89 rfl rfl) dX11_beside_90)))))
noncomputable def DX11_beside : Fr → St → Option (Int32 × St) := M1 (fun f => (sI (sR fr0 0 (gR f 0)) 1 (gI f 1))) BX11_beside
theorem kX11_beside : SND yX11_beside cX11_beside 6 (some .int) 8 [(0, 2), (1, 0)] cvoI DX11_beside := snd_I (nw := 2) (by decide) rfl rfl (fun _ _ => rfl) sBX11_beside
theorem dX2_knownBy_0 : decode cX2_knownBy 0 = .ok (.aload_n 0, 1) := by decide +kernel
theorem dX2_knownBy_1 : decode cX2_knownBy 1 = .ok (.getfield 21, 3) := by decide +kernel
theorem dX2_knownBy_4 : decode cX2_knownBy 4 = .ok (.iload_n 2, 1) := by decide +kernel
theorem dX2_knownBy_5 : decode cX2_knownBy 5 = .ok (.bipush 8, 2) := by decide +kernel
theorem dX2_knownBy_7 : decode cX2_knownBy 7 = .ok (.imul, 1) := by decide +kernel
theorem dX2_knownBy_8 : decode cX2_knownBy 8 = .ok (.iload_n 1, 1) := by decide +kernel
theorem dX2_knownBy_9 : decode cX2_knownBy 9 = .ok (.iadd, 1) := by decide +kernel
theorem dX2_knownBy_10 : decode cX2_knownBy 10 = .ok (.invokestatic 65, 3) := by decide +kernel
theorem dX2_knownBy_13 : decode cX2_knownBy 13 = .ok (.ireturn, 1) := by decide +kernel
theorem mokX2_knownBy : MOK yX2_knownBy cX2_knownBy 3 (some .int) 2 := ⟨w6_42, w1_8, ⟨by decide, by decide⟩, by decide +kernel, by decide⟩
abbrev miX2_knownBy : MI := (yX2_knownBy.cls, cX2_knownBy, 3, 2, false)
noncomputable def BX2_knownBy : Sm Int32 := (dRet (dCall DX11_cell (aI (aR aN 0 (dGR 2 11 (vR 0))) 1 (d2 o_iadd (d2 o_imul (vI 2) (cI 8)) (vI 1)))))
theorem sBX2_knownBy : SS (cvoI, .ireturn) miX2_knownBy [] [] [] [(0, 2), (1, 0), (2, 0)] [(0, 2), (1, 0), (2, 0)] 0 [] BX2_knownBy := (t_ret (cv := cvI) (fun _ _ => rfl) (s_of_xI (x_callN (ts := [(0, 2), (1, 0)]) kX11_cell mokX11_cell w3_229 rfl rfl rfl (a_I (ts := [(0, 2)]) 1 (a_R (ts := []) 0 a_nil (s_getR ck2 11 (by decide) rfl (s_aload_n dX2_knownBy_0 rfl rfl) dX2_knownBy_1 w2_50) rfl) (s_iadd (s_imul (s_iload_n dX2_knownBy_4 rfl rfl) (s_bipush dX2_knownBy_5 rfl) dX2_knownBy_7) (s_iload_n dX2_knownBy_8 rfl rfl) dX2_knownBy_9) rfl) dX2_knownBy_10 nb17)) dX2_knownBy_13)
noncomputable def DX2_knownBy : Fr → St → Option (Int32 × St) := M1 (fun f => (sI (sI (sR fr0 0 (gR f 0)) 1 (gI f 1)) 2 (gI f 2))) BX2_knownBy
theorem kX2_knownBy : SND yX2_knownBy cX2_knownBy 3 (some .int) 2 [(0, 2), (1, 0), (2, 0)] cvoI DX2_knownBy := snd_I (nw := 3) (by decide) rfl rfl (fun _ _ => rfl) sBX2_knownBy
theorem dX11_gainOf_0 : decode cX11_gainOf 0 = .ok (.aload_n 0, 1) := by decide +kernel
theorem dX11_gainOf_1 : decode cX11_gainOf 1 = .ok (.getfield 51, 3) := by decide +kernel
theorem dX11_gainOf_4 : decode cX11_gainOf 4 = .ok (.getfield 332, 3) := by decide +kernel
theorem dX11_gainOf_7 : decode cX11_gainOf 7 = .ok (.iload_n 2, 1) := by decide +kernel
theorem dX11_gainOf_8 : decode cX11_gainOf 8 = .ok (.iload_n 1, 1) := by decide +kernel
theorem dX11_gainOf_9 : decode cX11_gainOf 9 = .ok (.invokevirtual 419, 3) := by decide +kernel
theorem dX11_gainOf_12 : decode cX11_gainOf 12 = .ok (.invokestatic 243, 3) := by decide +kernel
theorem dX11_gainOf_15 : decode cX11_gainOf 15 = .ok (.istore_n 3, 1) := by decide +kernel
theorem dX11_gainOf_16 : decode cX11_gainOf 16 = .ok (.iload_n 3, 1) := by decide +kernel
theorem dX11_gainOf_17 : decode cX11_gainOf 17 = .ok (.aload_n 0, 1) := by decide +kernel
theorem dX11_gainOf_18 : decode cX11_gainOf 18 = .ok (.getfield 51, 3) := by decide +kernel
theorem dX11_gainOf_21 : decode cX11_gainOf 21 = .ok (.getfield 332, 3) := by decide +kernel
theorem dX11_gainOf_24 : decode cX11_gainOf 24 = .ok (.getfield 458, 3) := by decide +kernel
theorem dX11_gainOf_27 : decode cX11_gainOf 27 = .ok (.iload_n 2, 1) := by decide +kernel
theorem dX11_gainOf_28 : decode cX11_gainOf 28 = .ok (.invokestatic 286, 3) := by decide +kernel
theorem dX11_gainOf_31 : decode cX11_gainOf 31 = .ok (.ifCond .eq 7, 3) := by decide +kernel
theorem dX11_gainOf_34 : decode cX11_gainOf 34 = .ok (.iconst 2, 1) := by decide +kernel
theorem dX11_gainOf_35 : decode cX11_gainOf 35 = .ok (.goto 4, 3) := by decide +kernel
theorem dX11_gainOf_38 : decode cX11_gainOf 38 = .ok (.iconst 0, 1) := by decide +kernel
theorem dX11_gainOf_39 : decode cX11_gainOf 39 = .ok (.iadd, 1) := by decide +kernel
theorem dX11_gainOf_40 : decode cX11_gainOf 40 = .ok (.ireturn, 1) := by decide +kernel
theorem mokX11_gainOf : MOK yX11_gainOf cX11_gainOf 4 (some .int) 2 := ⟨w6_38, w1_1, ⟨by decide, by decide⟩, by decide +kernel, by decide⟩
abbrev miX11_gainOf : MI := (yX11_gainOf.cls, cX11_gainOf, 4, 3, false)
noncomputable def BX11_gainOf : Sm Int32 := (dSeq (dSetI 3 (dCall DJ6_bitCount_0f7a4 (aI aN 0 (dCallV 2 DX2_knownBy (aI (aI (aR aN 0 (dGR 3 1 (dGR 11 7 (vR 0)))) 1 (vI 2)) 2 (vI 1)))))) (dRet (d2 o_iadd (vI 3) (dT (dCZ q_ne (dCall DX11_hasBit (aI (aI aN 0 (dGI 2 2 (dGR 3 1 (dGR 11 7 (vR 0))))) 1 (vI 2)))) (cI 2) (cI 0)))))
theorem sBX11_gainOf : SS (cvoI, .ireturn) miX11_gainOf [] [] [] [(0, 2), (1, 0), (2, 0)] [(0, 2), (1, 0), (2, 0)] 0 [] BX11_gainOf := (t_sq (p1 := 16) (Γ' := [(0, 2), (1, 0), (2, 0), (3, 0)]) (t_istore_n (s_of_xI (x_call (ts := [(0, 0)]) kJ6_bitCount_0f7a4 mokJ6_bitCount_0f7a4 w5_28 rfl rfl rfl (a_I (ts := []) 0 a_nil (s_of_xI (x_callV (ts := [(0, 2), (1, 0), (2, 0)]) ck2 rfl kX2_knownBy mokX2_knownBy w6_40 w6_41 rfl rfl rfl rfl (a_I (ts := [(0, 2), (1, 0)]) 2 (a_I (ts := [(0, 2)]) 1 (a_R (ts := []) 0 a_nil (s_getR ck3 1 (by decide) rfl (s_getR ck11 7 (by decide) rfl (s_aload_n dX11_gainOf_0 rfl rfl) dX11_gainOf_1 w2_225) dX11_gainOf_4 w2_91) rfl) (s_iload_n dX11_gainOf_7 rfl rfl) rfl) (s_iload_n dX11_gainOf_8 rfl rfl) rfl) dX11_gainOf_9 w6_39)) rfl) dX11_gainOf_12 w5_27)) dX11_gainOf_15 rfl rfl rfl) (t_ret (cv := cvI) (fun _ _ => rfl) (s_iadd (s_iload_n dX11_gainOf_16 rfl rfl) (s_T (pT := 34) (pF := 38) (p1 := 35) (pe := 39) (c_ne_ZF (pF := 38) (s_of_xI (x_call (ts := [(0, 0), (1, 0)]) kX11_hasBit mokX11_hasBit w4_37 rfl rfl rfl (a_I (ts := [(0, 0)]) 1 (a_I (ts := []) 0 a_nil (s_getI ck2 2 (by decide) rfl (s_getR ck3 1 (by decide) rfl (s_getR ck11 7 (by decide) rfl (s_aload_n dX11_gainOf_17 rfl rfl) dX11_gainOf_18 w2_225) dX11_gainOf_21 w2_91) dX11_gainOf_24 w2_31) rfl) (s_iload_n dX11_gainOf_27 rfl rfl) rfl) dX11_gainOf_28 w5_148)) dX11_gainOf_31 rfl) (s_iconst dX11_gainOf_34 rfl) (s_iconst dX11_gainOf_38 rfl) (ld_goto (y := 39) dX11_gainOf_35 rfl (ld_in rfl))) dX11_gainOf_39) dX11_gainOf_40))
noncomputable def DX11_gainOf : Fr → St → Option (Int32 × St) := M1 (fun f => (sI (sI (sR fr0 0 (gR f 0)) 1 (gI f 1)) 2 (gI f 2))) BX11_gainOf
theorem kX11_gainOf : SND yX11_gainOf cX11_gainOf 4 (some .int) 3 [(0, 2), (1, 0), (2, 0)] cvoI DX11_gainOf := snd_I (nw := 3) (by decide) rfl rfl (fun _ _ => rfl) sBX11_gainOf
theorem dX11_isGame_0 : decode cX11_isGame 0 = .ok (.aload_n 0, 1) := by decide +kernel
theorem dX11_isGame_1 : decode cX11_isGame 1 = .ok (.getfield 26, 3) := by decide +kernel
theorem dX11_isGame_4 : decode cX11_isGame 4 = .ok (.iload_n 1, 1) := by decide +kernel
theorem dX11_isGame_5 : decode cX11_isGame 5 = .ok (.invokevirtual 140, 3) := by decide +kernel
theorem dX11_isGame_8 : decode cX11_isGame 8 = .ok (.ifCond .eq 24, 3) := by decide +kernel
theorem dX11_isGame_11 : decode cX11_isGame 11 = .ok (.aload_n 0, 1) := by decide +kernel
theorem dX11_isGame_12 : decode cX11_isGame 12 = .ok (.getfield 26, 3) := by decide +kernel
theorem dX11_isGame_15 : decode cX11_isGame 15 = .ok (.iload_n 2, 1) := by decide +kernel
theorem dX11_isGame_16 : decode cX11_isGame 16 = .ok (.iload_n 3, 1) := by decide +kernel
theorem dX11_isGame_17 : decode cX11_isGame 17 = .ok (.invokevirtual 154, 3) := by decide +kernel
theorem dX11_isGame_20 : decode cX11_isGame 20 = .ok (.ifCond .eq 12, 3) := by decide +kernel
theorem dX11_isGame_23 : decode cX11_isGame 23 = .ok (.iload_n 2, 1) := by decide +kernel
theorem dX11_isGame_24 : decode cX11_isGame 24 = .ok (.iload_n 3, 1) := by decide +kernel
theorem dX11_isGame_25 : decode cX11_isGame 25 = .ok (.if_icmp .eq 7, 3) := by decide +kernel
theorem dX11_isGame_28 : decode cX11_isGame 28 = .ok (.iconst 1, 1) := by decide +kernel
theorem dX11_isGame_29 : decode cX11_isGame 29 = .ok (.goto 4, 3) := by decide +kernel
theorem dX11_isGame_32 : decode cX11_isGame 32 = .ok (.iconst 0, 1) := by decide +kernel
theorem dX11_isGame_33 : decode cX11_isGame 33 = .ok (.ireturn, 1) := by decide +kernel
theorem mokX11_isGame : MOK yX11_isGame cX11_isGame 4 (some .boolean) 3 := ⟨w6_24, w1_1, ⟨by decide, by decide⟩, by decide +kernel, by decide⟩
abbrev miX11_isGame : MI := (yX11_isGame.cls, cX11_isGame, 4, 3, false)
noncomputable def BX11_isGame : Sm Int32 := (dRet (dB (dAnd (dAnd (dCZ q_ne (dCallV 5 DX5_isSlate (aI (aR aN 0 (dGR 11 2 (vR 0))) 1 (vI 1)))) (dCZ q_ne (dCallV 5 DX5_areHouses (aI (aI (aR aN 0 (dGR 11 2 (vR 0))) 1 (vI 2)) 2 (vI 3))))) (dCI r_ne (vI 2) (vI 3)))))
theorem sBX11_isGame : SS (cvoI, .ireturn) miX11_isGame [] [] [] [(0, 2), (1, 0), (2, 0), (3, 0)] [(0, 2), (1, 0), (2, 0), (3, 0)] 0 [] BX11_isGame := (t_ret (cv := cvI) (fun _ _ => rfl) (s_B (pT := 28) (pF := 32) (pe := 33) (c_and (p1 := 23) (pT := 28) (pF := 32) (c_and (p1 := 11) (pT := 23) (pF := 32) (c_ne_ZF (pF := 32) (s_of_xI (x_callV (ts := [(0, 2), (1, 0)]) ck5 rfl kX5_isSlate mokX5_isSlate w4_7 w4_8 rfl rfl rfl rfl (a_I (ts := [(0, 2)]) 1 (a_R (ts := []) 0 a_nil (s_getR ck11 2 (by decide) rfl (s_aload_n dX11_isGame_0 rfl rfl) dX11_isGame_1 w2_220) rfl) (s_iload_n dX11_isGame_4 rfl rfl) rfl) dX11_isGame_5 w4_6)) dX11_isGame_8 rfl) (c_ne_ZF (pF := 32) (s_of_xI (x_callV (ts := [(0, 2), (1, 0), (2, 0)]) ck5 rfl kX5_areHouses mokX5_areHouses w4_28 w4_29 rfl rfl rfl rfl (a_I (ts := [(0, 2), (1, 0)]) 2 (a_I (ts := [(0, 2)]) 1 (a_R (ts := []) 0 a_nil (s_getR ck11 2 (by decide) rfl (s_aload_n dX11_isGame_11 rfl rfl) dX11_isGame_12 w2_220) rfl) (s_iload_n dX11_isGame_15 rfl rfl) rfl) (s_iload_n dX11_isGame_16 rfl rfl) rfl) dX11_isGame_17 w4_27)) dX11_isGame_20 rfl)) (c_ne_F (pF := 32) (s_iload_n dX11_isGame_23 rfl rfl) (s_iload_n dX11_isGame_24 rfl rfl) dX11_isGame_25 rfl)) dX11_isGame_28 dX11_isGame_29 rfl dX11_isGame_32 rfl) dX11_isGame_33)
noncomputable def DX11_isGame : Fr → St → Option (Int32 × St) := MZ (fun f => (sI (sI (sI (sR fr0 0 (gR f 0)) 1 (gI f 1)) 2 (gI f 2)) 3 (gI f 3))) BX11_isGame
theorem kX11_isGame : SND yX11_isGame cX11_isGame 4 (some .boolean) 3 [(0, 2), (1, 0), (2, 0), (3, 0)] cvoI DX11_isGame := snd_Z (nw := 4) (by decide) rfl rfl (fun _ _ => rfl) sBX11_isGame
theorem dX2_runThrough_0 : decode cX2_runThrough 0 = .ok (.aload_n 0, 1) := by decide +kernel
theorem dX2_runThrough_1 : decode cX2_runThrough 1 = .ok (.aload_n 1, 1) := by decide +kernel
theorem dX2_runThrough_2 : decode cX2_runThrough 2 = .ok (.invokevirtual 111, 3) := by decide +kernel
theorem dX2_runThrough_5 : decode cX2_runThrough 5 = .ok (.iconst 0, 1) := by decide +kernel
theorem dX2_runThrough_6 : decode cX2_runThrough 6 = .ok (.istore_n 2, 1) := by decide +kernel
theorem dX2_runThrough_7 : decode cX2_runThrough 7 = .ok (.iload_n 2, 1) := by decide +kernel
theorem dX2_runThrough_8 : decode cX2_runThrough 8 = .ok (.aload_n 1, 1) := by decide +kernel
theorem dX2_runThrough_9 : decode cX2_runThrough 9 = .ok (.getfield 115, 3) := by decide +kernel
theorem dX2_runThrough_12 : decode cX2_runThrough 12 = .ok (.if_icmp .ge 15, 3) := by decide +kernel
theorem dX2_runThrough_15 : decode cX2_runThrough 15 = .ok (.aload_n 0, 1) := by decide +kernel
theorem dX2_runThrough_16 : decode cX2_runThrough 16 = .ok (.aload_n 1, 1) := by decide +kernel
theorem dX2_runThrough_17 : decode cX2_runThrough 17 = .ok (.iload_n 2, 1) := by decide +kernel
theorem dX2_runThrough_18 : decode cX2_runThrough 18 = .ok (.invokevirtual 118, 3) := by decide +kernel
theorem dX2_runThrough_21 : decode cX2_runThrough 21 = .ok (.iinc 2 1, 3) := by decide +kernel
theorem dX2_runThrough_24 : decode cX2_runThrough 24 = .ok (.goto (-17), 3) := by decide +kernel
theorem dX2_runThrough_27 : decode cX2_runThrough 27 = .ok (.return_, 1) := by decide +kernel
theorem mokX2_runThrough : MOK yX2_runThrough cX2_runThrough 3 none 1 := ⟨w6_32, w1_8, ⟨by decide, by decide⟩, by decide +kernel, by decide⟩
abbrev miX2_runThrough : MI := (yX2_runThrough.cls, cX2_runThrough, 3, 6, false)
noncomputable def LX2_runThrough_1 : Sm Unit := dLoop (fun f => (sI (sR (sR fr0 0 (gR f 0)) 1 (gR f 1)) 2 (gI f 2))) (dCI r_lt (vI 2) (dGI 5 1 (vR 1))) (dDo (dCallV 2 DX2_passDay (aI (aR (aR aN 0 (vR 0)) 1 (vR 1)) 2 (vI 2)))) (dInc 2 1)
theorem sLX2_runThrough_1 {ΓL : Gm} {PB PK : List Nat} : SS (cvoV, .return_) miX2_runThrough ΓL PB PK [(0, 2), (1, 2), (2, 0)] [(0, 2), (1, 2), (2, 0)] 7 [27] LX2_runThrough_1 := t_loop (pT := 15) (pF := 27) (pu := 21) (PB' := []) (PK' := []) (XB := [21]) (XU := [24]) (fun _ _ => rfl) rfl (c_lt_F (pF := 27) (s_iload_n dX2_runThrough_7 rfl rfl) (s_getI ck5 1 (by decide) rfl (s_aload_n dX2_runThrough_8 rfl rfl) dX2_runThrough_9 w1_137) dX2_runThrough_12 rfl) (t_do (x_callV (ts := [(0, 2), (1, 2), (2, 0)]) ck2 rfl kX2_passDay mokX2_passDay w4_117 w4_118 rfl rfl rfl rfl (a_I (ts := [(0, 2), (1, 2)]) 2 (a_R (ts := [(0, 2)]) 1 (a_R (ts := []) 0 a_nil (s_aload_n dX2_runThrough_15 rfl rfl) rfl) (s_aload_n dX2_runThrough_16 rfl rfl) rfl) (s_iload_n dX2_runThrough_17 rfl rfl) rfl) dX2_runThrough_18 w6_34) rfl) (t_iinc dX2_runThrough_21 rfl rfl rfl rfl) (lda_cons (ld_in rfl) lda_nil) lda_nil (lda_cons (ld_goto (y := 7) dX2_runThrough_24 rfl (ld_in rfl)) lda_nil) (ld_in rfl) lda_nil
noncomputable def BX2_runThrough : Sm Unit := (dSeq (dDo (dCallV 2 DX2_begin (aR (aR aN 0 (vR 0)) 1 (vR 1)))) (dSeq (dSeq (dSetI 2 (cI 0)) LX2_runThrough_1) dRet0))
theorem sBX2_runThrough : SS (cvoV, .return_) miX2_runThrough [] [] [] [(0, 2), (1, 2)] [(0, 2), (1, 2)] 0 [] BX2_runThrough := (t_sq (p1 := 5) (Γ' := [(0, 2), (1, 2)]) (t_do (x_callV (ts := [(0, 2), (1, 2)]) ck2 rfl kX2_begin mokX2_begin w4_92 w4_93 rfl rfl rfl rfl (a_R (ts := [(0, 2)]) 1 (a_R (ts := []) 0 a_nil (s_aload_n dX2_runThrough_0 rfl rfl) rfl) (s_aload_n dX2_runThrough_1 rfl rfl) rfl) dX2_runThrough_2 w6_33) rfl) (t_sq (p1 := 27) (Γ' := [(0, 2), (1, 2)]) (t_sq (p1 := 7) (Γ' := [(0, 2), (1, 2), (2, 0)]) (t_istore_n (s_iconst dX2_runThrough_5 rfl) dX2_runThrough_6 rfl rfl rfl) (tn_to (Γ' := [(0, 2), (1, 2), (2, 0)]) (XA := [27]) sLX2_runThrough_1 (lda_cons (ld_in rfl) lda_nil) rfl)) (t_ret0 (fun _ _ => rfl) dX2_runThrough_27)))
noncomputable def DX2_runThrough : Fr → St → Option (Unit × St) := M1 (fun f => (sR (sR fr0 0 (gR f 0)) 1 (gR f 1))) BX2_runThrough
theorem kX2_runThrough : SND yX2_runThrough cX2_runThrough 3 none 6 [(0, 2), (1, 2)] cvoV DX2_runThrough := snd_V (nw := 2) (by decide) (fun z => by cases z) rfl rfl (fun _ _ => rfl) sBX2_runThrough
theorem dX11_shutBy_0 : decode cX11_shutBy 0 = .ok (.aload_n 0, 1) := by decide +kernel
theorem dX11_shutBy_1 : decode cX11_shutBy 1 = .ok (.getfield 51, 3) := by decide +kernel
theorem dX11_shutBy_4 : decode cX11_shutBy 4 = .ok (.getfield 332, 3) := by decide +kernel
theorem dX11_shutBy_7 : decode cX11_shutBy 7 = .ok (.aload_n 0, 1) := by decide +kernel
theorem dX11_shutBy_8 : decode cX11_shutBy 8 = .ok (.getfield 26, 3) := by decide +kernel
theorem dX11_shutBy_11 : decode cX11_shutBy 11 = .ok (.invokevirtual 336, 3) := by decide +kernel
theorem dX11_shutBy_14 : decode cX11_shutBy 14 = .ok (.aload_n 0, 1) := by decide +kernel
theorem dX11_shutBy_15 : decode cX11_shutBy 15 = .ok (.getfield 51, 3) := by decide +kernel
theorem dX11_shutBy_18 : decode cX11_shutBy 18 = .ok (.getfield 332, 3) := by decide +kernel
theorem dX11_shutBy_21 : decode cX11_shutBy 21 = .ok (.iload_n 2, 1) := by decide +kernel
theorem dX11_shutBy_22 : decode cX11_shutBy 22 = .ok (.ifCond .ne 7, 3) := by decide +kernel
theorem dX11_shutBy_25 : decode cX11_shutBy 25 = .ok (.iconst 0, 1) := by decide +kernel
theorem dX11_shutBy_26 : decode cX11_shutBy 26 = .ok (.goto 6, 3) := by decide +kernel
theorem dX11_shutBy_29 : decode cX11_shutBy 29 = .ok (.iconst 1, 1) := by decide +kernel
theorem dX11_shutBy_30 : decode cX11_shutBy 30 = .ok (.iload_n 1, 1) := by decide +kernel
theorem dX11_shutBy_31 : decode cX11_shutBy 31 = .ok (.ishl, 1) := by decide +kernel
theorem dX11_shutBy_32 : decode cX11_shutBy 32 = .ok (.iload 4, 2) := by decide +kernel
theorem dX11_shutBy_34 : decode cX11_shutBy 34 = .ok (.ifCond .ne 7, 3) := by decide +kernel
theorem dX11_shutBy_37 : decode cX11_shutBy 37 = .ok (.iconst 0, 1) := by decide +kernel
theorem dX11_shutBy_38 : decode cX11_shutBy 38 = .ok (.goto 6, 3) := by decide +kernel
theorem dX11_shutBy_41 : decode cX11_shutBy 41 = .ok (.iconst 1, 1) := by decide +kernel
theorem dX11_shutBy_42 : decode cX11_shutBy 42 = .ok (.iload_n 3, 1) := by decide +kernel
theorem dX11_shutBy_43 : decode cX11_shutBy 43 = .ok (.ishl, 1) := by decide +kernel
theorem dX11_shutBy_44 : decode cX11_shutBy 44 = .ok (.ior, 1) := by decide +kernel
theorem dX11_shutBy_45 : decode cX11_shutBy 45 = .ok (.putfield 458, 3) := by decide +kernel
theorem dX11_shutBy_48 : decode cX11_shutBy 48 = .ok (.aload_n 0, 1) := by decide +kernel
theorem dX11_shutBy_49 : decode cX11_shutBy 49 = .ok (.getfield 51, 3) := by decide +kernel
theorem dX11_shutBy_52 : decode cX11_shutBy 52 = .ok (.getfield 332, 3) := by decide +kernel
theorem dX11_shutBy_55 : decode cX11_shutBy 55 = .ok (.aload_n 0, 1) := by decide +kernel
theorem dX11_shutBy_56 : decode cX11_shutBy 56 = .ok (.getfield 26, 3) := by decide +kernel
theorem dX11_shutBy_59 : decode cX11_shutBy 59 = .ok (.invokevirtual 452, 3) := by decide +kernel
theorem dX11_shutBy_62 : decode cX11_shutBy 62 = .ok (.return_, 1) := by decide +kernel
theorem mokX11_shutBy : MOK yX11_shutBy cX11_shutBy 5 none 4 := ⟨w6_28, w1_1, ⟨by decide, by decide⟩, by decide +kernel, by decide⟩
abbrev miX11_shutBy : MI := (yX11_shutBy.cls, cX11_shutBy, 5, 7, false)
noncomputable def BX11_shutBy : Sm Unit := (dSeq (dDo (dCallV 2 DX2_setAsTold (aR (aR aN 0 (dGR 3 1 (dGR 11 7 (vR 0)))) 1 (dGR 11 2 (vR 0))))) (dSeq (dP (fI 2 2) (dGR 3 1 (dGR 11 7 (vR 0))) (d2 o_ior (dT (dCZ q_eq (vI 2)) (cI 0) (d2 o_ishl (cI 1) (vI 1))) (dT (dCZ q_eq (vI 4)) (cI 0) (d2 o_ishl (cI 1) (vI 3))))) (dSeq (dDo (dCallV 2 DX2_runThrough (aR (aR aN 0 (dGR 3 1 (dGR 11 7 (vR 0)))) 1 (dGR 11 2 (vR 0))))) dRet0)))
theorem sBX11_shutBy : SS (cvoV, .return_) miX11_shutBy [] [] [] [(0, 2), (1, 0), (2, 0), (3, 0), (4, 0)] [(0, 2), (1, 0), (2, 0), (3, 0), (4, 0)] 0 [] BX11_shutBy := (t_sq (p1 := 14) (Γ' := [(0, 2), (1, 0), (2, 0), (3, 0), (4, 0)]) (t_do (x_callV (ts := [(0, 2), (1, 2)]) ck2 rfl kX2_setAsTold mokX2_setAsTold w4_84 w4_85 rfl rfl rfl rfl (a_R (ts := [(0, 2)]) 1 (a_R (ts := []) 0 a_nil (s_getR ck3 1 (by decide) rfl (s_getR ck11 7 (by decide) rfl (s_aload_n dX11_shutBy_0 rfl rfl) dX11_shutBy_1 w2_225) dX11_shutBy_4 w2_91) rfl) (s_getR ck11 2 (by decide) rfl (s_aload_n dX11_shutBy_7 rfl rfl) dX11_shutBy_8 w2_220) rfl) dX11_shutBy_11 w4_83) rfl) (t_sq (p1 := 48) (Γ' := [(0, 2), (1, 0), (2, 0), (3, 0), (4, 0)]) (t_pI ck2 2 (by decide) rfl (Or.inl rfl) (s_getR ck3 1 (by decide) rfl (s_getR ck11 7 (by decide) rfl (s_aload_n dX11_shutBy_14 rfl rfl) dX11_shutBy_15 w2_225) dX11_shutBy_18 w2_91) (s_ior (s_T (pT := 25) (pF := 29) (p1 := 26) (pe := 32) (c_eq_ZF (pF := 29) (s_iload_n dX11_shutBy_21 rfl rfl) dX11_shutBy_22 rfl) (s_iconst dX11_shutBy_25 rfl) (s_ishl (s_iconst dX11_shutBy_29 rfl) (s_iload_n dX11_shutBy_30 rfl rfl) dX11_shutBy_31) (ld_goto (y := 32) dX11_shutBy_26 rfl (ld_in rfl))) (s_T (pT := 37) (pF := 41) (p1 := 38) (pe := 44) (c_eq_ZF (pF := 41) (s_iload dX11_shutBy_32 rfl) dX11_shutBy_34 rfl) (s_iconst dX11_shutBy_37 rfl) (s_ishl (s_iconst dX11_shutBy_41 rfl) (s_iload_n dX11_shutBy_42 rfl rfl) dX11_shutBy_43) (ld_goto (y := 44) dX11_shutBy_38 rfl (ld_in rfl))) dX11_shutBy_44) dX11_shutBy_45 w2_31 rfl) (t_sq (p1 := 62) (Γ' := [(0, 2), (1, 0), (2, 0), (3, 0), (4, 0)]) (t_do (x_callV (ts := [(0, 2), (1, 2)]) ck2 rfl kX2_runThrough mokX2_runThrough w6_30 w6_31 rfl rfl rfl rfl (a_R (ts := [(0, 2)]) 1 (a_R (ts := []) 0 a_nil (s_getR ck3 1 (by decide) rfl (s_getR ck11 7 (by decide) rfl (s_aload_n dX11_shutBy_48 rfl rfl) dX11_shutBy_49 w2_225) dX11_shutBy_52 w2_91) rfl) (s_getR ck11 2 (by decide) rfl (s_aload_n dX11_shutBy_55 rfl rfl) dX11_shutBy_56 w2_220) rfl) dX11_shutBy_59 w6_29) rfl) (t_ret0 (fun _ _ => rfl) dX11_shutBy_62))))
noncomputable def DX11_shutBy : Fr → St → Option (Unit × St) := M1 (fun f => (sI (sI (sI (sI (sR fr0 0 (gR f 0)) 1 (gI f 1)) 2 (gI f 2)) 3 (gI f 3)) 4 (gI f 4))) BX11_shutBy
theorem kX11_shutBy : SND yX11_shutBy cX11_shutBy 5 none 7 [(0, 2), (1, 0), (2, 0), (3, 0), (4, 0)] cvoV DX11_shutBy := snd_V (nw := 5) (by decide) (fun z => by cases z) rfl rfl (fun _ _ => rfl) sBX11_shutBy
theorem dX11_rests_0 : decode cX11_rests 0 = .ok (.aload_n 0, 1) := by decide +kernel
theorem dX11_rests_1 : decode cX11_rests 1 = .ok (.iload_n 1, 1) := by decide +kernel
theorem dX11_rests_2 : decode cX11_rests 2 = .ok (.iload_n 2, 1) := by decide +kernel
theorem dX11_rests_3 : decode cX11_rests 3 = .ok (.iload_n 3, 1) := by decide +kernel
theorem dX11_rests_4 : decode cX11_rests 4 = .ok (.invokevirtual 354, 3) := by decide +kernel
theorem dX11_rests_7 : decode cX11_rests 7 = .ok (.ifCond .ne 6, 3) := by decide +kernel
theorem dX11_rests_10 : decode cX11_rests 10 = .ok (.bipush (-2), 2) := by decide +kernel
theorem dX11_rests_12 : decode cX11_rests 12 = .ok (.ireturn, 1) := by decide +kernel
theorem dX11_rests_13 : decode cX11_rests 13 = .ok (.iconst 0, 1) := by decide +kernel
theorem dX11_rests_14 : decode cX11_rests 14 = .ok (.istore 4, 2) := by decide +kernel
theorem dX11_rests_16 : decode cX11_rests 16 = .ok (.iload 4, 2) := by decide +kernel
theorem dX11_rests_18 : decode cX11_rests 18 = .ok (.iconst 4, 1) := by decide +kernel
theorem dX11_rests_19 : decode cX11_rests 19 = .ok (.if_icmp .ge 53, 3) := by decide +kernel
theorem dX11_rests_22 : decode cX11_rests 22 = .ok (.aload_n 0, 1) := by decide +kernel
theorem dX11_rests_23 : decode cX11_rests 23 = .ok (.iload_n 2, 1) := by decide +kernel
theorem dX11_rests_24 : decode cX11_rests 24 = .ok (.iload 4, 2) := by decide +kernel
theorem dX11_rests_26 : decode cX11_rests 26 = .ok (.iconst 1, 1) := by decide +kernel
theorem dX11_rests_27 : decode cX11_rests 27 = .ok (.iand, 1) := by decide +kernel
theorem dX11_rests_28 : decode cX11_rests 28 = .ok (.iload_n 3, 1) := by decide +kernel
theorem dX11_rests_29 : decode cX11_rests 29 = .ok (.iload 4, 2) := by decide +kernel
theorem dX11_rests_31 : decode cX11_rests 31 = .ok (.iconst 2, 1) := by decide +kernel
theorem dX11_rests_32 : decode cX11_rests 32 = .ok (.iand, 1) := by decide +kernel
theorem dX11_rests_33 : decode cX11_rests 33 = .ok (.invokevirtual 358, 3) := by decide +kernel
theorem dX11_rests_36 : decode cX11_rests 36 = .ok (.aload_n 0, 1) := by decide +kernel
theorem dX11_rests_37 : decode cX11_rests 37 = .ok (.getfield 82, 3) := by decide +kernel
theorem dX11_rests_40 : decode cX11_rests 40 = .ok (.iload 4, 2) := by decide +kernel
theorem dX11_rests_42 : decode cX11_rests 42 = .ok (.aload_n 0, 1) := by decide +kernel
theorem dX11_rests_43 : decode cX11_rests 43 = .ok (.iload_n 1, 1) := by decide +kernel
theorem dX11_rests_44 : decode cX11_rests 44 = .ok (.iload_n 2, 1) := by decide +kernel
theorem dX11_rests_45 : decode cX11_rests 45 = .ok (.invokevirtual 362, 3) := by decide +kernel
theorem dX11_rests_48 : decode cX11_rests 48 = .ok (.invokestatic 365, 3) := by decide +kernel
theorem dX11_rests_51 : decode cX11_rests 51 = .ok (.aload_n 0, 1) := by decide +kernel
theorem dX11_rests_52 : decode cX11_rests 52 = .ok (.getfield 86, 3) := by decide +kernel
theorem dX11_rests_55 : decode cX11_rests 55 = .ok (.iload 4, 2) := by decide +kernel
theorem dX11_rests_57 : decode cX11_rests 57 = .ok (.aload_n 0, 1) := by decide +kernel
theorem dX11_rests_58 : decode cX11_rests 58 = .ok (.iload_n 1, 1) := by decide +kernel
theorem dX11_rests_59 : decode cX11_rests 59 = .ok (.iload_n 3, 1) := by decide +kernel
theorem dX11_rests_60 : decode cX11_rests 60 = .ok (.invokevirtual 362, 3) := by decide +kernel
theorem dX11_rests_63 : decode cX11_rests 63 = .ok (.invokestatic 365, 3) := by decide +kernel
theorem dX11_rests_66 : decode cX11_rests 66 = .ok (.iinc 4 1, 3) := by decide +kernel
theorem dX11_rests_69 : decode cX11_rests 69 = .ok (.goto (-53), 3) := by decide +kernel
theorem dX11_rests_72 : decode cX11_rests 72 = .ok (.iconst 0, 1) := by decide +kernel
theorem dX11_rests_73 : decode cX11_rests 73 = .ok (.istore 4, 2) := by decide +kernel
theorem dX11_rests_75 : decode cX11_rests 75 = .ok (.iconst 0, 1) := by decide +kernel
theorem dX11_rests_76 : decode cX11_rests 76 = .ok (.istore 5, 2) := by decide +kernel
theorem dX11_rests_78 : decode cX11_rests 78 = .ok (.iload 5, 2) := by decide +kernel
theorem dX11_rests_80 : decode cX11_rests 80 = .ok (.iconst 4, 1) := by decide +kernel
theorem dX11_rests_81 : decode cX11_rests 81 = .ok (.if_icmp .ge 88, 3) := by decide +kernel
theorem dX11_rests_84 : decode cX11_rests 84 = .ok (.aload_n 0, 1) := by decide +kernel
theorem dX11_rests_85 : decode cX11_rests 85 = .ok (.getfield 82, 3) := by decide +kernel
theorem dX11_rests_88 : decode cX11_rests 88 = .ok (.iload 5, 2) := by decide +kernel
theorem dX11_rests_90 : decode cX11_rests 90 = .ok (.invokestatic 124, 3) := by decide +kernel
theorem dX11_rests_93 : decode cX11_rests 93 = .ok (.aload_n 0, 1) := by decide +kernel
theorem dX11_rests_94 : decode cX11_rests 94 = .ok (.getfield 82, 3) := by decide +kernel
theorem dX11_rests_97 : decode cX11_rests 97 = .ok (.iload 5, 2) := by decide +kernel
theorem dX11_rests_99 : decode cX11_rests 99 = .ok (.iconst 1, 1) := by decide +kernel
theorem dX11_rests_100 : decode cX11_rests 100 = .ok (.ixor, 1) := by decide +kernel
theorem dX11_rests_101 : decode cX11_rests 101 = .ok (.invokestatic 124, 3) := by decide +kernel
theorem dX11_rests_104 : decode cX11_rests 104 = .ok (.if_icmp .lt 7, 3) := by decide +kernel
theorem dX11_rests_107 : decode cX11_rests 107 = .ok (.iconst 1, 1) := by decide +kernel
theorem dX11_rests_108 : decode cX11_rests 108 = .ok (.goto 4, 3) := by decide +kernel
theorem dX11_rests_111 : decode cX11_rests 111 = .ok (.iconst 0, 1) := by decide +kernel
theorem dX11_rests_112 : decode cX11_rests 112 = .ok (.istore 6, 2) := by decide +kernel
theorem dX11_rests_114 : decode cX11_rests 114 = .ok (.aload_n 0, 1) := by decide +kernel
theorem dX11_rests_115 : decode cX11_rests 115 = .ok (.getfield 86, 3) := by decide +kernel
theorem dX11_rests_118 : decode cX11_rests 118 = .ok (.iload 5, 2) := by decide +kernel
theorem dX11_rests_120 : decode cX11_rests 120 = .ok (.invokestatic 124, 3) := by decide +kernel
theorem dX11_rests_123 : decode cX11_rests 123 = .ok (.aload_n 0, 1) := by decide +kernel
theorem dX11_rests_124 : decode cX11_rests 124 = .ok (.getfield 86, 3) := by decide +kernel
theorem dX11_rests_127 : decode cX11_rests 127 = .ok (.iload 5, 2) := by decide +kernel
theorem dX11_rests_129 : decode cX11_rests 129 = .ok (.iconst 2, 1) := by decide +kernel
theorem dX11_rests_130 : decode cX11_rests 130 = .ok (.ixor, 1) := by decide +kernel
theorem dX11_rests_131 : decode cX11_rests 131 = .ok (.invokestatic 124, 3) := by decide +kernel
theorem dX11_rests_134 : decode cX11_rests 134 = .ok (.if_icmp .lt 7, 3) := by decide +kernel
theorem dX11_rests_137 : decode cX11_rests 137 = .ok (.iconst 1, 1) := by decide +kernel
theorem dX11_rests_138 : decode cX11_rests 138 = .ok (.goto 4, 3) := by decide +kernel
theorem dX11_rests_141 : decode cX11_rests 141 = .ok (.iconst 0, 1) := by decide +kernel
theorem dX11_rests_142 : decode cX11_rests 142 = .ok (.istore 7, 2) := by decide +kernel
theorem dX11_rests_144 : decode cX11_rests 144 = .ok (.iload 6, 2) := by decide +kernel
theorem dX11_rests_146 : decode cX11_rests 146 = .ok (.ifCond .eq 17, 3) := by decide +kernel
theorem dX11_rests_149 : decode cX11_rests 149 = .ok (.iload 7, 2) := by decide +kernel
theorem dX11_rests_151 : decode cX11_rests 151 = .ok (.ifCond .eq 12, 3) := by decide +kernel
theorem dX11_rests_154 : decode cX11_rests 154 = .ok (.iload 4, 2) := by decide +kernel
theorem dX11_rests_156 : decode cX11_rests 156 = .ok (.iconst 1, 1) := by decide +kernel
theorem dX11_rests_157 : decode cX11_rests 157 = .ok (.iload 5, 2) := by decide +kernel
theorem dX11_rests_159 : decode cX11_rests 159 = .ok (.ishl, 1) := by decide +kernel
theorem dX11_rests_160 : decode cX11_rests 160 = .ok (.ior, 1) := by decide +kernel
theorem dX11_rests_161 : decode cX11_rests 161 = .ok (.istore 4, 2) := by decide +kernel
theorem dX11_rests_163 : decode cX11_rests 163 = .ok (.iinc 5 1, 3) := by decide +kernel
theorem dX11_rests_166 : decode cX11_rests 166 = .ok (.goto (-88), 3) := by decide +kernel
theorem dX11_rests_169 : decode cX11_rests 169 = .ok (.iload 4, 2) := by decide +kernel
theorem dX11_rests_171 : decode cX11_rests 171 = .ok (.ireturn, 1) := by decide +kernel
theorem mokX11_rests : MOK yX11_rests cX11_rests 8 (some .int) 3 := ⟨w6_20, w1_1, ⟨by decide, by decide⟩, by decide +kernel, by decide⟩
abbrev miX11_rests : MI := (yX11_rests.cls, cX11_rests, 8, 8, false)
noncomputable def LX11_rests_1 : Sm Int32 := dLoop (fun f => (sI (sI (sI (sI (sR fr0 0 (gR f 0)) 1 (gI f 1)) 2 (gI f 2)) 3 (gI f 3)) 4 (gI f 4))) (dCI r_lt (vI 4) (cI 4)) (dSeq (dDo (dCallV 11 DX11_shutBy (aI (aI (aI (aI (aR aN 0 (vR 0)) 1 (vI 2)) 2 (d2 o_iand (vI 4) (cI 1))) 3 (vI 3)) 4 (d2 o_iand (vI 4) (cI 2))))) (dSeq (dDo (dCall DX11_put (aI (aI (aR aN 0 (dGR 11 12 (vR 0))) 1 (vI 4)) 2 (dCallV 11 DX11_gainOf (aI (aI (aR aN 0 (vR 0)) 1 (vI 1)) 2 (vI 2)))))) (dDo (dCall DX11_put (aI (aI (aR aN 0 (dGR 11 13 (vR 0))) 1 (vI 4)) 2 (dCallV 11 DX11_gainOf (aI (aI (aR aN 0 (vR 0)) 1 (vI 1)) 2 (vI 3)))))))) (dInc 4 1)
theorem sLX11_rests_1 {ΓL : Gm} {PB PK : List Nat} : SS (cvoI, .ireturn) miX11_rests ΓL PB PK [(0, 2), (1, 0), (2, 0), (3, 0), (4, 0)] [(0, 2), (1, 0), (2, 0), (3, 0), (4, 0)] 16 [72] LX11_rests_1 := t_loop (pT := 22) (pF := 72) (pu := 66) (PB' := []) (PK' := []) (XB := [66]) (XU := [69]) (fun _ _ => rfl) rfl (c_lt_F (pF := 72) (s_iload dX11_rests_16 rfl) (s_iconst dX11_rests_18 rfl) dX11_rests_19 rfl) (t_sq (p1 := 36) (Γ' := [(0, 2), (1, 0), (2, 0), (3, 0), (4, 0)]) (t_do (x_callV (ts := [(0, 2), (1, 0), (2, 0), (3, 0), (4, 0)]) ck11 rfl kX11_shutBy mokX11_shutBy w6_27 ps3_2 rfl rfl rfl rfl (a_I (ts := [(0, 2), (1, 0), (2, 0), (3, 0)]) 4 (a_I (ts := [(0, 2), (1, 0), (2, 0)]) 3 (a_I (ts := [(0, 2), (1, 0)]) 2 (a_I (ts := [(0, 2)]) 1 (a_R (ts := []) 0 a_nil (s_aload_n dX11_rests_22 rfl rfl) rfl) (s_iload_n dX11_rests_23 rfl rfl) rfl) (s_iand (s_iload dX11_rests_24 rfl) (s_iconst dX11_rests_26 rfl) dX11_rests_27) rfl) (s_iload_n dX11_rests_28 rfl rfl) rfl) (s_iand (s_iload dX11_rests_29 rfl) (s_iconst dX11_rests_31 rfl) dX11_rests_32) rfl) dX11_rests_33 w6_25) rfl) (t_sq (p1 := 51) (Γ' := [(0, 2), (1, 0), (2, 0), (3, 0), (4, 0)]) (t_do (x_call (ts := [(0, 2), (1, 0), (2, 0)]) kX11_put mokX11_put w3_161 rfl rfl rfl (a_I (ts := [(0, 2), (1, 0)]) 2 (a_I (ts := [(0, 2)]) 1 (a_R (ts := []) 0 a_nil (s_getR ck11 12 (by decide) rfl (s_aload_n dX11_rests_36 rfl rfl) dX11_rests_37 w2_230) rfl) (s_iload dX11_rests_40 rfl) rfl) (s_of_xI (x_callV (ts := [(0, 2), (1, 0), (2, 0)]) ck11 rfl kX11_gainOf mokX11_gainOf w6_37 ps3_3 rfl rfl rfl rfl (a_I (ts := [(0, 2), (1, 0)]) 2 (a_I (ts := [(0, 2)]) 1 (a_R (ts := []) 0 a_nil (s_aload_n dX11_rests_42 rfl rfl) rfl) (s_iload_n dX11_rests_43 rfl rfl) rfl) (s_iload_n dX11_rests_44 rfl rfl) rfl) dX11_rests_45 w6_35)) rfl) dX11_rests_48 w6_43) rfl) (t_do (x_call (ts := [(0, 2), (1, 0), (2, 0)]) kX11_put mokX11_put w3_161 rfl rfl rfl (a_I (ts := [(0, 2), (1, 0)]) 2 (a_I (ts := [(0, 2)]) 1 (a_R (ts := []) 0 a_nil (s_getR ck11 13 (by decide) rfl (s_aload_n dX11_rests_51 rfl rfl) dX11_rests_52 w2_231) rfl) (s_iload dX11_rests_55 rfl) rfl) (s_of_xI (x_callV (ts := [(0, 2), (1, 0), (2, 0)]) ck11 rfl kX11_gainOf mokX11_gainOf w6_37 ps3_3 rfl rfl rfl rfl (a_I (ts := [(0, 2), (1, 0)]) 2 (a_I (ts := [(0, 2)]) 1 (a_R (ts := []) 0 a_nil (s_aload_n dX11_rests_57 rfl rfl) rfl) (s_iload_n dX11_rests_58 rfl rfl) rfl) (s_iload_n dX11_rests_59 rfl rfl) rfl) dX11_rests_60 w6_35)) rfl) dX11_rests_63 w6_43) rfl))) (t_iinc dX11_rests_66 rfl rfl rfl rfl) (lda_cons (ld_in rfl) lda_nil) lda_nil (lda_cons (ld_goto (y := 16) dX11_rests_69 rfl (ld_in rfl)) lda_nil) (ld_in rfl) lda_nil
noncomputable def LX11_rests_2 : Sm Int32 := dLoop (fun f => (sI (sI (sI (sI (sI (sR fr0 0 (gR f 0)) 1 (gI f 1)) 2 (gI f 2)) 3 (gI f 3)) 4 (gI f 4)) 5 (gI f 5))) (dCI r_lt (vI 5) (cI 4)) (dSeq (dSetI 6 (dB (dCI r_ge (dCall DX11_cell (aI (aR aN 0 (dGR 11 12 (vR 0))) 1 (vI 5))) (dCall DX11_cell (aI (aR aN 0 (dGR 11 12 (vR 0))) 1 (d2 o_ixor (vI 5) (cI 1))))))) (dSeq (dSetI 7 (dB (dCI r_ge (dCall DX11_cell (aI (aR aN 0 (dGR 11 13 (vR 0))) 1 (vI 5))) (dCall DX11_cell (aI (aR aN 0 (dGR 11 13 (vR 0))) 1 (d2 o_ixor (vI 5) (cI 2))))))) (dIf (dAnd (dCZ q_ne (vI 6)) (dCZ q_ne (vI 7))) (dSetI 4 (d2 o_ior (vI 4) (d2 o_ishl (cI 1) (vI 5)))) dSkip))) (dInc 5 1)
theorem sLX11_rests_2 {ΓL : Gm} {PB PK : List Nat} : SS (cvoI, .ireturn) miX11_rests ΓL PB PK [(0, 2), (1, 0), (2, 0), (3, 0), (4, 0), (5, 0)] [(0, 2), (1, 0), (2, 0), (3, 0), (4, 0), (5, 0)] 78 [169] LX11_rests_2 := t_loop (pT := 84) (pF := 169) (pu := 163) (PB' := []) (PK' := []) (XB := [163]) (XU := [166]) (fun _ _ => rfl) rfl (c_lt_F (pF := 169) (s_iload dX11_rests_78 rfl) (s_iconst dX11_rests_80 rfl) dX11_rests_81 rfl) (t_sq (p1 := 114) (Γ' := [(0, 2), (1, 0), (2, 0), (3, 0), (4, 0), (5, 0), (6, 0)]) (t_istore (s_B (pT := 107) (pF := 111) (pe := 112) (c_ge_F (pF := 111) (s_of_xI (x_call (ts := [(0, 2), (1, 0)]) kX11_cell mokX11_cell w3_229 rfl rfl rfl (a_I (ts := [(0, 2)]) 1 (a_R (ts := []) 0 a_nil (s_getR ck11 12 (by decide) rfl (s_aload_n dX11_rests_84 rfl rfl) dX11_rests_85 w2_230) rfl) (s_iload dX11_rests_88 rfl) rfl) dX11_rests_90 w3_228)) (s_of_xI (x_call (ts := [(0, 2), (1, 0)]) kX11_cell mokX11_cell w3_229 rfl rfl rfl (a_I (ts := [(0, 2)]) 1 (a_R (ts := []) 0 a_nil (s_getR ck11 12 (by decide) rfl (s_aload_n dX11_rests_93 rfl rfl) dX11_rests_94 w2_230) rfl) (s_ixor (s_iload dX11_rests_97 rfl) (s_iconst dX11_rests_99 rfl) dX11_rests_100) rfl) dX11_rests_101 w3_228)) dX11_rests_104 rfl) dX11_rests_107 dX11_rests_108 rfl dX11_rests_111 rfl) dX11_rests_112 rfl rfl) (t_sq (p1 := 144) (Γ' := [(0, 2), (1, 0), (2, 0), (3, 0), (4, 0), (5, 0), (6, 0), (7, 0)]) (t_istore (s_B (pT := 137) (pF := 141) (pe := 142) (c_ge_F (pF := 141) (s_of_xI (x_call (ts := [(0, 2), (1, 0)]) kX11_cell mokX11_cell w3_229 rfl rfl rfl (a_I (ts := [(0, 2)]) 1 (a_R (ts := []) 0 a_nil (s_getR ck11 13 (by decide) rfl (s_aload_n dX11_rests_114 rfl rfl) dX11_rests_115 w2_231) rfl) (s_iload dX11_rests_118 rfl) rfl) dX11_rests_120 w3_228)) (s_of_xI (x_call (ts := [(0, 2), (1, 0)]) kX11_cell mokX11_cell w3_229 rfl rfl rfl (a_I (ts := [(0, 2)]) 1 (a_R (ts := []) 0 a_nil (s_getR ck11 13 (by decide) rfl (s_aload_n dX11_rests_123 rfl rfl) dX11_rests_124 w2_231) rfl) (s_ixor (s_iload dX11_rests_127 rfl) (s_iconst dX11_rests_129 rfl) dX11_rests_130) rfl) dX11_rests_131 w3_228)) dX11_rests_134 rfl) dX11_rests_137 dX11_rests_138 rfl dX11_rests_141 rfl) dX11_rests_142 rfl rfl) (t_if (pT := 154) (pF := 163) (X := [163]) (XA := [163]) (XB := [163]) (c_and (p1 := 149) (pT := 154) (pF := 163) (c_ne_ZF (pF := 163) (s_iload dX11_rests_144 rfl) dX11_rests_146 rfl) (c_ne_ZF (pF := 163) (s_iload dX11_rests_149 rfl) dX11_rests_151 rfl)) (t_istore (s_ior (s_iload dX11_rests_154 rfl) (s_ishl (s_iconst dX11_rests_156 rfl) (s_iload dX11_rests_157 rfl) dX11_rests_159) dX11_rests_160) dX11_rests_161 rfl rfl) (t_skip (ld_in rfl) rfl) (lda_cons (ld_in rfl) lda_nil) (lda_cons (ld_in rfl) lda_nil)))) (t_iinc dX11_rests_163 rfl rfl rfl rfl) (lda_cons (ld_in rfl) lda_nil) lda_nil (lda_cons (ld_goto (y := 78) dX11_rests_166 rfl (ld_in rfl)) lda_nil) (ld_in rfl) lda_nil
noncomputable def BX11_rests : Sm Int32 := (dSeq (dIf (dNot (dCZ q_ne (dCallV 11 DX11_isGame (aI (aI (aI (aR aN 0 (vR 0)) 1 (vI 1)) 2 (vI 2)) 3 (vI 3))))) (dRet (cI (-2))) dSkip) (dSeq (dSeq (dSetI 4 (cI 0)) LX11_rests_1) (dSeq (dSetI 4 (cI 0)) (dSeq (dSeq (dSetI 5 (cI 0)) LX11_rests_2) (dRet (vI 4))))))
theorem sBX11_rests : SS (cvoI, .ireturn) miX11_rests [] [] [] [(0, 2), (1, 0), (2, 0), (3, 0)] [(0, 2), (1, 0), (2, 0), (3, 0)] 0 [] BX11_rests := (t_sq (p1 := 13) (Γ' := [(0, 2), (1, 0), (2, 0), (3, 0)]) (t_if (pT := 10) (pF := 13) (X := [13]) (XA := []) (XB := [13]) (c_not (pT := 10) (pF := 13) (c_ne_ZJ (pT := 13) (s_of_xI (x_callV (ts := [(0, 2), (1, 0), (2, 0), (3, 0)]) ck11 rfl kX11_isGame mokX11_isGame w6_23 ps3_1 rfl rfl rfl rfl (a_I (ts := [(0, 2), (1, 0), (2, 0)]) 3 (a_I (ts := [(0, 2), (1, 0)]) 2 (a_I (ts := [(0, 2)]) 1 (a_R (ts := []) 0 a_nil (s_aload_n dX11_rests_0 rfl rfl) rfl) (s_iload_n dX11_rests_1 rfl rfl) rfl) (s_iload_n dX11_rests_2 rfl rfl) rfl) (s_iload_n dX11_rests_3 rfl rfl) rfl) dX11_rests_4 w6_21)) dX11_rests_7 rfl)) (t_ret (cv := cvI) (fun _ _ => rfl) (s_bipush dX11_rests_10 rfl) dX11_rests_12) (t_skip (ld_in rfl) rfl) lda_nil (lda_cons (ld_in rfl) lda_nil)) (t_sq (p1 := 72) (Γ' := [(0, 2), (1, 0), (2, 0), (3, 0)]) (t_sq (p1 := 16) (Γ' := [(0, 2), (1, 0), (2, 0), (3, 0), (4, 0)]) (t_istore (s_iconst dX11_rests_13 rfl) dX11_rests_14 rfl rfl) (tn_to (Γ' := [(0, 2), (1, 0), (2, 0), (3, 0), (4, 0)]) (XA := [72]) sLX11_rests_1 (lda_cons (ld_in rfl) lda_nil) rfl)) (t_sq (p1 := 75) (Γ' := [(0, 2), (1, 0), (2, 0), (3, 0), (4, 0)]) (t_istore (s_iconst dX11_rests_72 rfl) dX11_rests_73 rfl rfl) (t_sq (p1 := 169) (Γ' := [(0, 2), (1, 0), (2, 0), (3, 0), (4, 0)]) (t_sq (p1 := 78) (Γ' := [(0, 2), (1, 0), (2, 0), (3, 0), (4, 0), (5, 0)]) (t_istore (s_iconst dX11_rests_75 rfl) dX11_rests_76 rfl rfl) (tn_to (Γ' := [(0, 2), (1, 0), (2, 0), (3, 0), (4, 0), (5, 0)]) (XA := [169]) sLX11_rests_2 (lda_cons (ld_in rfl) lda_nil) rfl)) (t_ret (cv := cvI) (fun _ _ => rfl) (s_iload dX11_rests_169 rfl) dX11_rests_171)))))
noncomputable def DX11_rests : Fr → St → Option (Int32 × St) := M1 (fun f => (sI (sI (sI (sR fr0 0 (gR f 0)) 1 (gI f 1)) 2 (gI f 2)) 3 (gI f 3))) BX11_rests
theorem kX11_rests : SND yX11_rests cX11_rests 8 (some .int) 8 [(0, 2), (1, 0), (2, 0), (3, 0)] cvoI DX11_rests := snd_I (nw := 4) (by decide) rfl rfl (fun _ _ => rfl) sBX11_rests
theorem dX11_gets_0 : decode cX11_gets 0 = .ok (.aload_n 0, 1) := by decide +kernel
theorem dX11_gets_1 : decode cX11_gets 1 = .ok (.iload_n 1, 1) := by decide +kernel
theorem dX11_gets_2 : decode cX11_gets 2 = .ok (.iload_n 2, 1) := by decide +kernel
theorem dX11_gets_3 : decode cX11_gets 3 = .ok (.iload_n 3, 1) := by decide +kernel
theorem dX11_gets_4 : decode cX11_gets 4 = .ok (.invokevirtual 354, 3) := by decide +kernel
theorem dX11_gets_7 : decode cX11_gets 7 = .ok (.ifCond .eq 19, 3) := by decide +kernel
theorem dX11_gets_10 : decode cX11_gets 10 = .ok (.iload 4, 2) := by decide +kernel
theorem dX11_gets_12 : decode cX11_gets 12 = .ok (.invokestatic 131, 3) := by decide +kernel
theorem dX11_gets_15 : decode cX11_gets 15 = .ok (.ifCond .eq 11, 3) := by decide +kernel
theorem dX11_gets_18 : decode cX11_gets 18 = .ok (.iload 5, 2) := by decide +kernel
theorem dX11_gets_20 : decode cX11_gets 20 = .ok (.invokestatic 131, 3) := by decide +kernel
theorem dX11_gets_23 : decode cX11_gets 23 = .ok (.ifCond .ne 7, 3) := by decide +kernel
theorem dX11_gets_26 : decode cX11_gets 26 = .ok (.sipush (-1000), 3) := by decide +kernel
theorem dX11_gets_29 : decode cX11_gets 29 = .ok (.ireturn, 1) := by decide +kernel
theorem dX11_gets_30 : decode cX11_gets 30 = .ok (.aload_n 0, 1) := by decide +kernel
theorem dX11_gets_31 : decode cX11_gets 31 = .ok (.iload_n 2, 1) := by decide +kernel
theorem dX11_gets_32 : decode cX11_gets 32 = .ok (.iload 4, 2) := by decide +kernel
theorem dX11_gets_34 : decode cX11_gets 34 = .ok (.iload_n 3, 1) := by decide +kernel
theorem dX11_gets_35 : decode cX11_gets 35 = .ok (.iload 5, 2) := by decide +kernel
theorem dX11_gets_37 : decode cX11_gets 37 = .ok (.invokevirtual 358, 3) := by decide +kernel
theorem dX11_gets_40 : decode cX11_gets 40 = .ok (.aload_n 0, 1) := by decide +kernel
theorem dX11_gets_41 : decode cX11_gets 41 = .ok (.iload_n 1, 1) := by decide +kernel
theorem dX11_gets_42 : decode cX11_gets 42 = .ok (.iload_n 2, 1) := by decide +kernel
theorem dX11_gets_43 : decode cX11_gets 43 = .ok (.invokevirtual 362, 3) := by decide +kernel
theorem dX11_gets_46 : decode cX11_gets 46 = .ok (.ireturn, 1) := by decide +kernel
theorem mokX11_gets : MOK yX11_gets cX11_gets 6 (some .int) 5 := ⟨w6_47, w1_1, ⟨by decide, by decide⟩, by decide +kernel, by decide⟩
abbrev miX11_gets : MI := (yX11_gets.cls, cX11_gets, 6, 8, false)
noncomputable def BX11_gets : Sm Int32 := (dSeq (dIf (dOr (dOr (dNot (dCZ q_ne (dCallV 11 DX11_isGame (aI (aI (aI (aR aN 0 (vR 0)) 1 (vI 1)) 2 (vI 2)) 3 (vI 3))))) (dNot (dCZ q_ne (dCall DX11_isChoice (aI aN 0 (vI 4)))))) (dNot (dCZ q_ne (dCall DX11_isChoice (aI aN 0 (vI 5)))))) (dRet (cI (-1000))) dSkip) (dSeq (dDo (dCallV 11 DX11_shutBy (aI (aI (aI (aI (aR aN 0 (vR 0)) 1 (vI 2)) 2 (vI 4)) 3 (vI 3)) 4 (vI 5)))) (dRet (dCallV 11 DX11_gainOf (aI (aI (aR aN 0 (vR 0)) 1 (vI 1)) 2 (vI 2))))))
theorem sBX11_gets : SS (cvoI, .ireturn) miX11_gets [] [] [] [(0, 2), (1, 0), (2, 0), (3, 0), (4, 0), (5, 0)] [(0, 2), (1, 0), (2, 0), (3, 0), (4, 0), (5, 0)] 0 [] BX11_gets := (t_sq (p1 := 30) (Γ' := [(0, 2), (1, 0), (2, 0), (3, 0), (4, 0), (5, 0)]) (t_if (pT := 26) (pF := 30) (X := [30]) (XA := []) (XB := [30]) (c_or (p1 := 18) (pT := 26) (pF := 30) (c_or (p1 := 10) (pT := 26) (pF := 18) (c_not (pT := 26) (pF := 10) (c_ne_ZF (pF := 26) (s_of_xI (x_callV (ts := [(0, 2), (1, 0), (2, 0), (3, 0)]) ck11 rfl kX11_isGame mokX11_isGame w6_23 ps3_1 rfl rfl rfl rfl (a_I (ts := [(0, 2), (1, 0), (2, 0)]) 3 (a_I (ts := [(0, 2), (1, 0)]) 2 (a_I (ts := [(0, 2)]) 1 (a_R (ts := []) 0 a_nil (s_aload_n dX11_gets_0 rfl rfl) rfl) (s_iload_n dX11_gets_1 rfl rfl) rfl) (s_iload_n dX11_gets_2 rfl rfl) rfl) (s_iload_n dX11_gets_3 rfl rfl) rfl) dX11_gets_4 w6_21)) dX11_gets_7 rfl)) (c_not (pT := 26) (pF := 18) (c_ne_ZF (pF := 26) (s_of_xI (x_call (ts := [(0, 0)]) kX11_isChoice mokX11_isChoice w4_0 rfl rfl rfl (a_I (ts := []) 0 a_nil (s_iload dX11_gets_10 rfl) rfl) dX11_gets_12 w3_239)) dX11_gets_15 rfl))) (c_not (pT := 26) (pF := 30) (c_ne_ZJ (pT := 30) (s_of_xI (x_call (ts := [(0, 0)]) kX11_isChoice mokX11_isChoice w4_0 rfl rfl rfl (a_I (ts := []) 0 a_nil (s_iload dX11_gets_18 rfl) rfl) dX11_gets_20 w3_239)) dX11_gets_23 rfl))) (t_ret (cv := cvI) (fun _ _ => rfl) (s_sipush dX11_gets_26 rfl) dX11_gets_29) (t_skip (ld_in rfl) rfl) lda_nil (lda_cons (ld_in rfl) lda_nil)) (t_sq (p1 := 40) (Γ' := [(0, 2), (1, 0), (2, 0), (3, 0), (4, 0), (5, 0)]) (t_do (x_callV (ts := [(0, 2), (1, 0), (2, 0), (3, 0), (4, 0)]) ck11 rfl kX11_shutBy mokX11_shutBy w6_27 ps3_2 rfl rfl rfl rfl (a_I (ts := [(0, 2), (1, 0), (2, 0), (3, 0)]) 4 (a_I (ts := [(0, 2), (1, 0), (2, 0)]) 3 (a_I (ts := [(0, 2), (1, 0)]) 2 (a_I (ts := [(0, 2)]) 1 (a_R (ts := []) 0 a_nil (s_aload_n dX11_gets_30 rfl rfl) rfl) (s_iload_n dX11_gets_31 rfl rfl) rfl) (s_iload dX11_gets_32 rfl) rfl) (s_iload_n dX11_gets_34 rfl rfl) rfl) (s_iload dX11_gets_35 rfl) rfl) dX11_gets_37 w6_25) rfl) (t_ret (cv := cvI) (fun _ _ => rfl) (s_of_xI (x_callV (ts := [(0, 2), (1, 0), (2, 0)]) ck11 rfl kX11_gainOf mokX11_gainOf w6_37 ps3_3 rfl rfl rfl rfl (a_I (ts := [(0, 2), (1, 0)]) 2 (a_I (ts := [(0, 2)]) 1 (a_R (ts := []) 0 a_nil (s_aload_n dX11_gets_40 rfl rfl) rfl) (s_iload_n dX11_gets_41 rfl rfl) rfl) (s_iload_n dX11_gets_42 rfl rfl) rfl) dX11_gets_43 w6_35)) dX11_gets_46)))
noncomputable def DX11_gets : Fr → St → Option (Int32 × St) := M1 (fun f => (sI (sI (sI (sI (sI (sR fr0 0 (gR f 0)) 1 (gI f 1)) 2 (gI f 2)) 3 (gI f 3)) 4 (gI f 4)) 5 (gI f 5))) BX11_gets
theorem kX11_gets : SND yX11_gets cX11_gets 6 (some .int) 8 [(0, 2), (1, 0), (2, 0), (3, 0), (4, 0), (5, 0)] cvoI DX11_gets := snd_I (nw := 6) (by decide) rfl rfl (fun _ _ => rfl) sBX11_gets
theorem dJ7_fill_d0a16_0 : decode cJ7_fill_d0a16 0 = .ok (.iconst 0, 1) := by decide +kernel
theorem dJ7_fill_d0a16_1 : decode cJ7_fill_d0a16 1 = .ok (.istore_n 3, 1) := by decide +kernel
theorem dJ7_fill_d0a16_2 : decode cJ7_fill_d0a16 2 = .ok (.aload_n 0, 1) := by decide +kernel
theorem dJ7_fill_d0a16_3 : decode cJ7_fill_d0a16 3 = .ok (.arraylength, 1) := by decide +kernel
theorem dJ7_fill_d0a16_4 : decode cJ7_fill_d0a16 4 = .ok (.istore 4, 2) := by decide +kernel
theorem dJ7_fill_d0a16_6 : decode cJ7_fill_d0a16 6 = .ok (.iload_n 3, 1) := by decide +kernel
theorem dJ7_fill_d0a16_7 : decode cJ7_fill_d0a16 7 = .ok (.iload 4, 2) := by decide +kernel
theorem dJ7_fill_d0a16_9 : decode cJ7_fill_d0a16 9 = .ok (.if_icmp .ge 13, 3) := by decide +kernel
theorem dJ7_fill_d0a16_12 : decode cJ7_fill_d0a16 12 = .ok (.aload_n 0, 1) := by decide +kernel
theorem dJ7_fill_d0a16_13 : decode cJ7_fill_d0a16 13 = .ok (.iload_n 3, 1) := by decide +kernel
theorem dJ7_fill_d0a16_14 : decode cJ7_fill_d0a16 14 = .ok (.lload_n 1, 1) := by decide +kernel
theorem dJ7_fill_d0a16_15 : decode cJ7_fill_d0a16 15 = .ok (.lastore, 1) := by decide +kernel
theorem dJ7_fill_d0a16_16 : decode cJ7_fill_d0a16 16 = .ok (.iinc 3 1, 3) := by decide +kernel
theorem dJ7_fill_d0a16_19 : decode cJ7_fill_d0a16 19 = .ok (.goto (-13), 3) := by decide +kernel
theorem dJ7_fill_d0a16_22 : decode cJ7_fill_d0a16 22 = .ok (.return_, 1) := by decide +kernel
theorem mokJ7_fill_d0a16 : MOK yJ7_fill_d0a16 cJ7_fill_d0a16 5 none 2 := ⟨w6_58, w1_20, ⟨by decide, by decide⟩, by decide +kernel, by decide⟩
abbrev miJ7_fill_d0a16 : MI := (yJ7_fill_d0a16.cls, cJ7_fill_d0a16, 5, 1, false)
noncomputable def LJ7_fill_d0a16_1 : Sm Unit := dLoop (fun f => (sI (sI (sL (sR fr0 0 (gR f 0)) 1 (gL f 1)) 3 (gI f 3)) 4 (gI f 4))) (dCI r_lt (vI 3) (vI 4)) (d3 stL (vR 0) (vI 3) (vL 1)) (dInc 3 1)
theorem sLJ7_fill_d0a16_1 {ΓL : Gm} {PB PK : List Nat} : SS (cvoV, .return_) miJ7_fill_d0a16 ΓL PB PK [(0, 2), (1, 1), (3, 0), (4, 0)] [(0, 2), (1, 1), (3, 0), (4, 0)] 6 [22] LJ7_fill_d0a16_1 := t_loop (pT := 12) (pF := 22) (pu := 16) (PB' := []) (PK' := []) (XB := [16]) (XU := [19]) (fun _ _ => rfl) rfl (c_lt_F (pF := 22) (s_iload_n dJ7_fill_d0a16_6 rfl rfl) (s_iload dJ7_fill_d0a16_7 rfl) dJ7_fill_d0a16_9 rfl) (t_stL (s_aload_n dJ7_fill_d0a16_12 rfl rfl) (s_iload_n dJ7_fill_d0a16_13 rfl rfl) (s_lload_n dJ7_fill_d0a16_14 rfl rfl) dJ7_fill_d0a16_15 rfl) (t_iinc dJ7_fill_d0a16_16 rfl rfl rfl rfl) (lda_cons (ld_in rfl) lda_nil) lda_nil (lda_cons (ld_goto (y := 6) dJ7_fill_d0a16_19 rfl (ld_in rfl)) lda_nil) (ld_in rfl) lda_nil
noncomputable def BJ7_fill_d0a16 : Sm Unit := (dSeq (dSeq (dSetI 3 (cI 0)) (dSeq (dSetI 4 (dLen (vR 0))) LJ7_fill_d0a16_1)) dRet0)
theorem sBJ7_fill_d0a16 : SS (cvoV, .return_) miJ7_fill_d0a16 [] [] [] [(0, 2), (1, 1)] [(0, 2), (1, 1)] 0 [] BJ7_fill_d0a16 := (t_sq (p1 := 22) (Γ' := [(0, 2), (1, 1)]) (t_sq (p1 := 2) (Γ' := [(0, 2), (1, 1), (3, 0)]) (t_istore_n (s_iconst dJ7_fill_d0a16_0 rfl) dJ7_fill_d0a16_1 rfl rfl rfl) (t_sq (p1 := 6) (Γ' := [(0, 2), (1, 1), (3, 0), (4, 0)]) (t_istore (s_len (s_aload_n dJ7_fill_d0a16_2 rfl rfl) dJ7_fill_d0a16_3) dJ7_fill_d0a16_4 rfl rfl) (tn_to (Γ' := [(0, 2), (1, 1), (3, 0), (4, 0)]) (XA := [22]) sLJ7_fill_d0a16_1 (lda_cons (ld_in rfl) lda_nil) rfl))) (t_ret0 (fun _ _ => rfl) dJ7_fill_d0a16_22))
noncomputable def DJ7_fill_d0a16 : Fr → St → Option (Unit × St) := M1 (fun f => (sL (sR fr0 0 (gR f 0)) 1 (gL f 1))) BJ7_fill_d0a16
theorem kJ7_fill_d0a16 : SND yJ7_fill_d0a16 cJ7_fill_d0a16 5 none 1 [(0, 2), (1, 1)] cvoV DJ7_fill_d0a16 := snd_V (nw := 3) (by decide) (fun z => by cases z) rfl rfl (fun _ _ => rfl) sBJ7_fill_d0a16
theorem dX10_addUp_0 : decode cX10_addUp 0 = .ok (.iconst 0, 1) := by decide +kernel
theorem dX10_addUp_1 : decode cX10_addUp 1 = .ok (.istore 5, 2) := by decide +kernel
theorem dX10_addUp_3 : decode cX10_addUp 3 = .ok (.iload 5, 2) := by decide +kernel
theorem dX10_addUp_5 : decode cX10_addUp 5 = .ok (.aload_n 1, 1) := by decide +kernel
theorem dX10_addUp_6 : decode cX10_addUp 6 = .ok (.getfield 87, 3) := by decide +kernel
theorem dX10_addUp_9 : decode cX10_addUp 9 = .ok (.if_icmp .ge 104, 3) := by decide +kernel
theorem dX10_addUp_12 : decode cX10_addUp 12 = .ok (.iload 5, 2) := by decide +kernel
theorem dX10_addUp_14 : decode cX10_addUp 14 = .ok (.aload_n 0, 1) := by decide +kernel
theorem dX10_addUp_15 : decode cX10_addUp 15 = .ok (.getfield 15, 3) := by decide +kernel
theorem dX10_addUp_18 : decode cX10_addUp 18 = .ok (.arraylength, 1) := by decide +kernel
theorem dX10_addUp_19 : decode cX10_addUp 19 = .ok (.if_icmp .ge 94, 3) := by decide +kernel
theorem dX10_addUp_22 : decode cX10_addUp 22 = .ok (.aload_n 0, 1) := by decide +kernel
theorem dX10_addUp_23 : decode cX10_addUp 23 = .ok (.getfield 15, 3) := by decide +kernel
theorem dX10_addUp_26 : decode cX10_addUp 26 = .ok (.iload 5, 2) := by decide +kernel
theorem dX10_addUp_28 : decode cX10_addUp 28 = .ok (.dup2, 1) := by decide +kernel
theorem dX10_addUp_29 : decode cX10_addUp 29 = .ok (.laload, 1) := by decide +kernel
theorem dX10_addUp_30 : decode cX10_addUp 30 = .ok (.lload_n 3, 1) := by decide +kernel
theorem dX10_addUp_31 : decode cX10_addUp 31 = .ok (.aload_n 2, 1) := by decide +kernel
theorem dX10_addUp_32 : decode cX10_addUp 32 = .ok (.getfield 90, 3) := by decide +kernel
theorem dX10_addUp_35 : decode cX10_addUp 35 = .ok (.iload 5, 2) := by decide +kernel
theorem dX10_addUp_37 : decode cX10_addUp 37 = .ok (.invokestatic 94, 3) := by decide +kernel
theorem dX10_addUp_40 : decode cX10_addUp 40 = .ok (.invokestatic 34, 3) := by decide +kernel
theorem dX10_addUp_43 : decode cX10_addUp 43 = .ok (.i2l, 1) := by decide +kernel
theorem dX10_addUp_44 : decode cX10_addUp 44 = .ok (.lmul, 1) := by decide +kernel
theorem dX10_addUp_45 : decode cX10_addUp 45 = .ok (.ladd, 1) := by decide +kernel
theorem dX10_addUp_46 : decode cX10_addUp 46 = .ok (.lastore, 1) := by decide +kernel
theorem dX10_addUp_47 : decode cX10_addUp 47 = .ok (.iconst 0, 1) := by decide +kernel
theorem dX10_addUp_48 : decode cX10_addUp 48 = .ok (.istore 6, 2) := by decide +kernel
theorem dX10_addUp_50 : decode cX10_addUp 50 = .ok (.iload 6, 2) := by decide +kernel
theorem dX10_addUp_52 : decode cX10_addUp 52 = .ok (.aload_n 1, 1) := by decide +kernel
theorem dX10_addUp_53 : decode cX10_addUp 53 = .ok (.getfield 98, 3) := by decide +kernel
theorem dX10_addUp_56 : decode cX10_addUp 56 = .ok (.if_icmp .ge 51, 3) := by decide +kernel
theorem dX10_addUp_59 : decode cX10_addUp 59 = .ok (.iload 5, 2) := by decide +kernel
theorem dX10_addUp_61 : decode cX10_addUp 61 = .ok (.bipush 8, 2) := by decide +kernel
theorem dX10_addUp_63 : decode cX10_addUp 63 = .ok (.imul, 1) := by decide +kernel
theorem dX10_addUp_64 : decode cX10_addUp 64 = .ok (.iload 6, 2) := by decide +kernel
theorem dX10_addUp_66 : decode cX10_addUp 66 = .ok (.iadd, 1) := by decide +kernel
theorem dX10_addUp_67 : decode cX10_addUp 67 = .ok (.istore 7, 2) := by decide +kernel
theorem dX10_addUp_69 : decode cX10_addUp 69 = .ok (.iload 7, 2) := by decide +kernel
theorem dX10_addUp_71 : decode cX10_addUp 71 = .ok (.aload_n 0, 1) := by decide +kernel
theorem dX10_addUp_72 : decode cX10_addUp 72 = .ok (.getfield 9, 3) := by decide +kernel
theorem dX10_addUp_75 : decode cX10_addUp 75 = .ok (.arraylength, 1) := by decide +kernel
theorem dX10_addUp_76 : decode cX10_addUp 76 = .ok (.if_icmp .ge 25, 3) := by decide +kernel
theorem dX10_addUp_79 : decode cX10_addUp 79 = .ok (.aload_n 2, 1) := by decide +kernel
theorem dX10_addUp_80 : decode cX10_addUp 80 = .ok (.iload 6, 2) := by decide +kernel
theorem dX10_addUp_82 : decode cX10_addUp 82 = .ok (.iload 5, 2) := by decide +kernel
theorem dX10_addUp_84 : decode cX10_addUp 84 = .ok (.invokevirtual 101, 3) := by decide +kernel
theorem dX10_addUp_87 : decode cX10_addUp 87 = .ok (.ifCond .eq 14, 3) := by decide +kernel
theorem dX10_addUp_90 : decode cX10_addUp 90 = .ok (.aload_n 0, 1) := by decide +kernel
theorem dX10_addUp_91 : decode cX10_addUp 91 = .ok (.getfield 9, 3) := by decide +kernel
theorem dX10_addUp_94 : decode cX10_addUp 94 = .ok (.iload 7, 2) := by decide +kernel
theorem dX10_addUp_96 : decode cX10_addUp 96 = .ok (.dup2, 1) := by decide +kernel
theorem dX10_addUp_97 : decode cX10_addUp 97 = .ok (.laload, 1) := by decide +kernel
theorem dX10_addUp_98 : decode cX10_addUp 98 = .ok (.lload_n 3, 1) := by decide +kernel
theorem dX10_addUp_99 : decode cX10_addUp 99 = .ok (.ladd, 1) := by decide +kernel
theorem dX10_addUp_100 : decode cX10_addUp 100 = .ok (.lastore, 1) := by decide +kernel
theorem dX10_addUp_101 : decode cX10_addUp 101 = .ok (.iinc 6 1, 3) := by decide +kernel
theorem dX10_addUp_104 : decode cX10_addUp 104 = .ok (.goto (-54), 3) := by decide +kernel
theorem dX10_addUp_107 : decode cX10_addUp 107 = .ok (.iinc 5 1, 3) := by decide +kernel
theorem dX10_addUp_110 : decode cX10_addUp 110 = .ok (.goto (-107), 3) := by decide +kernel
theorem dX10_addUp_113 : decode cX10_addUp 113 = .ok (.return_, 1) := by decide +kernel
theorem mokX10_addUp : MOK yX10_addUp cX10_addUp 8 none 3 := ⟨w6_74, w1_11, ⟨by decide, by decide⟩, by decide +kernel, by decide⟩
abbrev miX10_addUp : MI := (yX10_addUp.cls, cX10_addUp, 8, 3, false)
noncomputable def LX10_addUp_1 : Sm Unit := dLoop (fun f => (sI (sI (sL (sR (sR (sR fr0 0 (gR f 0)) 1 (gR f 1)) 2 (gR f 2)) 3 (gL f 3)) 5 (gI f 5)) 6 (gI f 6))) (dCI r_lt (vI 6) (dGI 5 4 (vR 1))) (dSeq (dSetI 7 (d2 o_iadd (d2 o_imul (vI 5) (cI 8)) (vI 6))) (dIf (dAnd (dCI r_lt (vI 7) (dLen (dGR 10 2 (vR 0)))) (dCZ q_ne (dCallV 2 DX2_knownBy (aI (aI (aR aN 0 (vR 2)) 1 (vI 6)) 2 (vI 5))))) (dUL o_ladd (dGR 10 2 (vR 0)) (vI 7) (vL 3)) dSkip)) (dInc 6 1)
theorem sLX10_addUp_1 {ΓL : Gm} {PB PK : List Nat} : SS (cvoV, .return_) miX10_addUp ΓL PB PK [(0, 2), (1, 2), (2, 2), (3, 1), (5, 0), (6, 0)] [(0, 2), (1, 2), (2, 2), (3, 1), (5, 0), (6, 0)] 50 [107] LX10_addUp_1 := t_loop (pT := 59) (pF := 107) (pu := 101) (PB' := []) (PK' := []) (XB := [101]) (XU := [104]) (fun _ _ => rfl) rfl (c_lt_F (pF := 107) (s_iload dX10_addUp_50 rfl) (s_getI ck5 4 (by decide) rfl (s_aload_n dX10_addUp_52 rfl rfl) dX10_addUp_53 w1_153) dX10_addUp_56 rfl) (t_sq (p1 := 69) (Γ' := [(0, 2), (1, 2), (2, 2), (3, 1), (5, 0), (6, 0), (7, 0)]) (t_istore (s_iadd (s_imul (s_iload dX10_addUp_59 rfl) (s_bipush dX10_addUp_61 rfl) dX10_addUp_63) (s_iload dX10_addUp_64 rfl) dX10_addUp_66) dX10_addUp_67 rfl rfl) (t_if (pT := 90) (pF := 101) (X := [101]) (XA := [101]) (XB := [101]) (c_and (p1 := 79) (pT := 90) (pF := 101) (c_lt_F (pF := 101) (s_iload dX10_addUp_69 rfl) (s_len (s_getR ck10 2 (by decide) rfl (s_aload_n dX10_addUp_71 rfl rfl) dX10_addUp_72 w2_193) dX10_addUp_75) dX10_addUp_76 rfl) (c_ne_ZF (pF := 101) (s_of_xI (x_callV (ts := [(0, 2), (1, 0), (2, 0)]) ck2 rfl kX2_knownBy mokX2_knownBy w6_40 w6_41 rfl rfl rfl rfl (a_I (ts := [(0, 2), (1, 0)]) 2 (a_I (ts := [(0, 2)]) 1 (a_R (ts := []) 0 a_nil (s_aload_n dX10_addUp_79 rfl rfl) rfl) (s_iload dX10_addUp_80 rfl) rfl) (s_iload dX10_addUp_82 rfl) rfl) dX10_addUp_84 w6_76)) dX10_addUp_87 rfl)) (t_UL (s_getR ck10 2 (by decide) rfl (s_aload_n dX10_addUp_90 rfl rfl) dX10_addUp_91 w2_193) (s_iload dX10_addUp_94 rfl) dX10_addUp_96 dX10_addUp_97 (s_lload_n dX10_addUp_98 rfl rfl) (fun _ _ _ _ => rulI fun a b K => lv_ladd a b dX10_addUp_99 K) dX10_addUp_100 rfl) (t_skip (ld_in rfl) rfl) (lda_cons (ld_in rfl) lda_nil) (lda_cons (ld_in rfl) lda_nil))) (t_iinc dX10_addUp_101 rfl rfl rfl rfl) (lda_cons (ld_in rfl) lda_nil) lda_nil (lda_cons (ld_goto (y := 50) dX10_addUp_104 rfl (ld_in rfl)) lda_nil) (ld_in rfl) lda_nil
noncomputable def LX10_addUp_2 : Sm Unit := dLoop (fun f => (sI (sL (sR (sR (sR fr0 0 (gR f 0)) 1 (gR f 1)) 2 (gR f 2)) 3 (gL f 3)) 5 (gI f 5))) (dAnd (dCI r_lt (vI 5) (dGI 5 7 (vR 1))) (dCI r_lt (vI 5) (dLen (dGR 10 3 (vR 0))))) (dSeq (dUL o_ladd (dGR 10 3 (vR 0)) (vI 5) (d2 o_lmul (vL 3) (d1 o_i2l (dCall DJ6_bitCount_0f7a4 (aI aN 0 (dCall DX11_cell (aI (aR aN 0 (dGR 2 10 (vR 2))) 1 (vI 5)))))))) (dSeq (dSetI 6 (cI 0)) LX10_addUp_1)) (dInc 5 1)
theorem sLX10_addUp_2 {ΓL : Gm} {PB PK : List Nat} : SS (cvoV, .return_) miX10_addUp ΓL PB PK [(0, 2), (1, 2), (2, 2), (3, 1), (5, 0)] [(0, 2), (1, 2), (2, 2), (3, 1), (5, 0)] 3 [113] LX10_addUp_2 := t_loop (pT := 22) (pF := 113) (pu := 107) (PB' := []) (PK' := []) (XB := [107]) (XU := [110]) (fun _ _ => rfl) rfl (c_and (p1 := 12) (pT := 22) (pF := 113) (c_lt_F (pF := 113) (s_iload dX10_addUp_3 rfl) (s_getI ck5 7 (by decide) rfl (s_aload_n dX10_addUp_5 rfl rfl) dX10_addUp_6 w1_168) dX10_addUp_9 rfl) (c_lt_F (pF := 113) (s_iload dX10_addUp_12 rfl) (s_len (s_getR ck10 3 (by decide) rfl (s_aload_n dX10_addUp_14 rfl rfl) dX10_addUp_15 w2_194) dX10_addUp_18) dX10_addUp_19 rfl)) (t_sq (p1 := 47) (Γ' := [(0, 2), (1, 2), (2, 2), (3, 1), (5, 0)]) (t_UL (s_getR ck10 3 (by decide) rfl (s_aload_n dX10_addUp_22 rfl rfl) dX10_addUp_23 w2_194) (s_iload dX10_addUp_26 rfl) dX10_addUp_28 dX10_addUp_29 (s_lmul (s_lload_n dX10_addUp_30 rfl rfl) (s_i2l (s_of_xI (x_call (ts := [(0, 0)]) kJ6_bitCount_0f7a4 mokJ6_bitCount_0f7a4 w5_28 rfl rfl rfl (a_I (ts := []) 0 a_nil (s_of_xI (x_callN (ts := [(0, 2), (1, 0)]) kX11_cell mokX11_cell w3_229 rfl rfl rfl (a_I (ts := [(0, 2)]) 1 (a_R (ts := []) 0 a_nil (s_getR ck2 10 (by decide) rfl (s_aload_n dX10_addUp_31 rfl rfl) dX10_addUp_32 w2_47) rfl) (s_iload dX10_addUp_35 rfl) rfl) dX10_addUp_37 nb31)) rfl) dX10_addUp_40 w6_64)) dX10_addUp_43) dX10_addUp_44) (fun _ _ _ _ => rulI fun a b K => lv_ladd a b dX10_addUp_45 K) dX10_addUp_46 rfl) (t_sq (p1 := 50) (Γ' := [(0, 2), (1, 2), (2, 2), (3, 1), (5, 0), (6, 0)]) (t_istore (s_iconst dX10_addUp_47 rfl) dX10_addUp_48 rfl rfl) (tn_to (Γ' := [(0, 2), (1, 2), (2, 2), (3, 1), (5, 0), (6, 0)]) (XA := [107]) sLX10_addUp_1 (lda_cons (ld_in rfl) lda_nil) rfl))) (t_iinc dX10_addUp_107 rfl rfl rfl rfl) (lda_cons (ld_in rfl) lda_nil) lda_nil (lda_cons (ld_goto (y := 3) dX10_addUp_110 rfl (ld_in rfl)) lda_nil) (ld_in rfl) lda_nil
noncomputable def BX10_addUp : Sm Unit := (dSeq (dSeq (dSetI 5 (cI 0)) LX10_addUp_2) dRet0)
theorem sBX10_addUp : SS (cvoV, .return_) miX10_addUp [] [] [] [(0, 2), (1, 2), (2, 2), (3, 1)] [(0, 2), (1, 2), (2, 2), (3, 1)] 0 [] BX10_addUp := (t_sq (p1 := 113) (Γ' := [(0, 2), (1, 2), (2, 2), (3, 1)]) (t_sq (p1 := 3) (Γ' := [(0, 2), (1, 2), (2, 2), (3, 1), (5, 0)]) (t_istore (s_iconst dX10_addUp_0 rfl) dX10_addUp_1 rfl rfl) (tn_to (Γ' := [(0, 2), (1, 2), (2, 2), (3, 1), (5, 0)]) (XA := [113]) sLX10_addUp_2 (lda_cons (ld_in rfl) lda_nil) rfl)) (t_ret0 (fun _ _ => rfl) dX10_addUp_113))
noncomputable def DX10_addUp : Fr → St → Option (Unit × St) := M1 (fun f => (sL (sR (sR (sR fr0 0 (gR f 0)) 1 (gR f 1)) 2 (gR f 2)) 3 (gL f 3))) BX10_addUp
theorem kX10_addUp : SND yX10_addUp cX10_addUp 8 none 3 [(0, 2), (1, 2), (2, 2), (3, 1)] cvoV DX10_addUp := snd_V (nw := 5) (by decide) (fun z => by cases z) rfl rfl (fun _ _ => rfl) sBX10_addUp
theorem dX10_power_0 : decode cX10_power 0 = .ok (.lconst 1, 1) := by decide +kernel
theorem dX10_power_1 : decode cX10_power 1 = .ok (.lstore_n 2, 1) := by decide +kernel
theorem dX10_power_2 : decode cX10_power 2 = .ok (.iconst 0, 1) := by decide +kernel
theorem dX10_power_3 : decode cX10_power 3 = .ok (.istore 4, 2) := by decide +kernel
theorem dX10_power_5 : decode cX10_power 5 = .ok (.iload 4, 2) := by decide +kernel
theorem dX10_power_7 : decode cX10_power 7 = .ok (.iload_n 1, 1) := by decide +kernel
theorem dX10_power_8 : decode cX10_power 8 = .ok (.if_icmp .ge 14, 3) := by decide +kernel
theorem dX10_power_11 : decode cX10_power 11 = .ok (.lload_n 2, 1) := by decide +kernel
theorem dX10_power_12 : decode cX10_power 12 = .ok (.iload_n 0, 1) := by decide +kernel
theorem dX10_power_13 : decode cX10_power 13 = .ok (.i2l, 1) := by decide +kernel
theorem dX10_power_14 : decode cX10_power 14 = .ok (.lmul, 1) := by decide +kernel
theorem dX10_power_15 : decode cX10_power 15 = .ok (.lstore_n 2, 1) := by decide +kernel
theorem dX10_power_16 : decode cX10_power 16 = .ok (.iinc 4 1, 3) := by decide +kernel
theorem dX10_power_19 : decode cX10_power 19 = .ok (.goto (-14), 3) := by decide +kernel
theorem dX10_power_22 : decode cX10_power 22 = .ok (.lload_n 2, 1) := by decide +kernel
theorem dX10_power_23 : decode cX10_power 23 = .ok (.lreturn, 1) := by decide +kernel
theorem mokX10_power : MOK yX10_power cX10_power 5 (some .long) 2 := ⟨w6_68, w1_11, ⟨by decide, by decide⟩, by decide +kernel, by decide⟩
abbrev miX10_power : MI := (yX10_power.cls, cX10_power, 5, 1, false)
noncomputable def LX10_power_1 : Sm Int64 := dLoop (fun f => (sI (sL (sI (sI fr0 0 (gI f 0)) 1 (gI f 1)) 2 (gL f 2)) 4 (gI f 4))) (dCI r_lt (vI 4) (vI 1)) (dSetL 2 (d2 o_lmul (vL 2) (d1 o_i2l (vI 0)))) (dInc 4 1)
theorem sLX10_power_1 {ΓL : Gm} {PB PK : List Nat} : SS (cvoL, .lreturn) miX10_power ΓL PB PK [(0, 0), (1, 0), (2, 1), (4, 0)] [(0, 0), (1, 0), (2, 1), (4, 0)] 5 [22] LX10_power_1 := t_loop (pT := 11) (pF := 22) (pu := 16) (PB' := []) (PK' := []) (XB := [16]) (XU := [19]) (fun _ _ => rfl) rfl (c_lt_F (pF := 22) (s_iload dX10_power_5 rfl) (s_iload_n dX10_power_7 rfl rfl) dX10_power_8 rfl) (t_lstore_n (s_lmul (s_lload_n dX10_power_11 rfl rfl) (s_i2l (s_iload_n dX10_power_12 rfl rfl) dX10_power_13) dX10_power_14) dX10_power_15 rfl rfl rfl) (t_iinc dX10_power_16 rfl rfl rfl rfl) (lda_cons (ld_in rfl) lda_nil) lda_nil (lda_cons (ld_goto (y := 5) dX10_power_19 rfl (ld_in rfl)) lda_nil) (ld_in rfl) lda_nil
noncomputable def BX10_power : Sm Int64 := (dSeq (dSetL 2 (cL 1)) (dSeq (dSeq (dSetI 4 (cI 0)) LX10_power_1) (dRet (vL 2))))
theorem sBX10_power : SS (cvoL, .lreturn) miX10_power [] [] [] [(0, 0), (1, 0)] [(0, 0), (1, 0)] 0 [] BX10_power := (t_sq (p1 := 2) (Γ' := [(0, 0), (1, 0), (2, 1)]) (t_lstore_n (s_lconst dX10_power_0 rfl) dX10_power_1 rfl rfl rfl) (t_sq (p1 := 22) (Γ' := [(0, 0), (1, 0), (2, 1)]) (t_sq (p1 := 5) (Γ' := [(0, 0), (1, 0), (2, 1), (4, 0)]) (t_istore (s_iconst dX10_power_2 rfl) dX10_power_3 rfl rfl) (tn_to (Γ' := [(0, 0), (1, 0), (2, 1), (4, 0)]) (XA := [22]) sLX10_power_1 (lda_cons (ld_in rfl) lda_nil) rfl)) (t_ret (cv := cvL) (fun _ _ => rfl) (s_lload_n dX10_power_22 rfl rfl) dX10_power_23)))
noncomputable def DX10_power : Fr → St → Option (Int64 × St) := M1 (fun f => (sI (sI fr0 0 (gI f 0)) 1 (gI f 1))) BX10_power
theorem kX10_power : SND yX10_power cX10_power 5 (some .long) 1 [(0, 0), (1, 0)] cvoL DX10_power := snd_L (nw := 2) (by decide) rfl rfl (fun _ _ => rfl) sBX10_power
theorem dX5_busyDays_0 : decode cX5_busyDays 0 = .ok (.iconst 0, 1) := by decide +kernel
theorem dX5_busyDays_1 : decode cX5_busyDays 1 = .ok (.istore_n 1, 1) := by decide +kernel
theorem dX5_busyDays_2 : decode cX5_busyDays 2 = .ok (.iconst 0, 1) := by decide +kernel
theorem dX5_busyDays_3 : decode cX5_busyDays 3 = .ok (.istore_n 2, 1) := by decide +kernel
theorem dX5_busyDays_4 : decode cX5_busyDays 4 = .ok (.iload_n 2, 1) := by decide +kernel
theorem dX5_busyDays_5 : decode cX5_busyDays 5 = .ok (.aload_n 0, 1) := by decide +kernel
theorem dX5_busyDays_6 : decode cX5_busyDays 6 = .ok (.getfield 39, 3) := by decide +kernel
theorem dX5_busyDays_9 : decode cX5_busyDays 9 = .ok (.getfield 89, 3) := by decide +kernel
theorem dX5_busyDays_12 : decode cX5_busyDays 12 = .ok (.if_icmp .ge 39, 3) := by decide +kernel
theorem dX5_busyDays_15 : decode cX5_busyDays 15 = .ok (.aload_n 0, 1) := by decide +kernel
theorem dX5_busyDays_16 : decode cX5_busyDays 16 = .ok (.getfield 39, 3) := by decide +kernel
theorem dX5_busyDays_19 : decode cX5_busyDays 19 = .ok (.getfield 100, 3) := by decide +kernel
theorem dX5_busyDays_22 : decode cX5_busyDays 22 = .ok (.iload_n 2, 1) := by decide +kernel
theorem dX5_busyDays_23 : decode cX5_busyDays 23 = .ok (.invokestatic 85, 3) := by decide +kernel
theorem dX5_busyDays_26 : decode cX5_busyDays 26 = .ok (.istore_n 3, 1) := by decide +kernel
theorem dX5_busyDays_27 : decode cX5_busyDays 27 = .ok (.iload_n 1, 1) := by decide +kernel
theorem dX5_busyDays_28 : decode cX5_busyDays 28 = .ok (.aload_n 0, 1) := by decide +kernel
theorem dX5_busyDays_29 : decode cX5_busyDays 29 = .ok (.iload_n 3, 1) := by decide +kernel
theorem dX5_busyDays_30 : decode cX5_busyDays 30 = .ok (.invokevirtual 103, 3) := by decide +kernel
theorem dX5_busyDays_33 : decode cX5_busyDays 33 = .ok (.ifCond .eq 9, 3) := by decide +kernel
theorem dX5_busyDays_36 : decode cX5_busyDays 36 = .ok (.iconst 1, 1) := by decide +kernel
theorem dX5_busyDays_37 : decode cX5_busyDays 37 = .ok (.iload_n 3, 1) := by decide +kernel
theorem dX5_busyDays_38 : decode cX5_busyDays 38 = .ok (.ishl, 1) := by decide +kernel
theorem dX5_busyDays_39 : decode cX5_busyDays 39 = .ok (.goto 4, 3) := by decide +kernel
theorem dX5_busyDays_42 : decode cX5_busyDays 42 = .ok (.iconst 0, 1) := by decide +kernel
theorem dX5_busyDays_43 : decode cX5_busyDays 43 = .ok (.ior, 1) := by decide +kernel
theorem dX5_busyDays_44 : decode cX5_busyDays 44 = .ok (.istore_n 1, 1) := by decide +kernel
theorem dX5_busyDays_45 : decode cX5_busyDays 45 = .ok (.iinc 2 1, 3) := by decide +kernel
theorem dX5_busyDays_48 : decode cX5_busyDays 48 = .ok (.goto (-44), 3) := by decide +kernel
theorem dX5_busyDays_51 : decode cX5_busyDays 51 = .ok (.iload_n 1, 1) := by decide +kernel
theorem dX5_busyDays_52 : decode cX5_busyDays 52 = .ok (.ireturn, 1) := by decide +kernel
theorem mokX5_busyDays : MOK yX5_busyDays cX5_busyDays 4 (some .int) 0 := ⟨w6_62, w1_4, ⟨by decide, by decide⟩, by decide +kernel, by decide⟩
abbrev miX5_busyDays : MI := (yX5_busyDays.cls, cX5_busyDays, 4, 2, false)
noncomputable def LX5_busyDays_1 : Sm Int32 := dLoop (fun f => (sI (sI (sR fr0 0 (gR f 0)) 1 (gI f 1)) 2 (gI f 2))) (dCI r_lt (vI 2) (dGI 1 1 (dGR 5 16 (vR 0)))) (dSeq (dSetI 3 (dCall DX11_cell (aI (aR aN 0 (dGR 1 6 (dGR 5 16 (vR 0)))) 1 (vI 2)))) (dSetI 1 (d2 o_ior (vI 1) (dT (dCZ q_ne (dCallV 5 DX5_isDayAhead (aI (aR aN 0 (vR 0)) 1 (vI 3)))) (d2 o_ishl (cI 1) (vI 3)) (cI 0))))) (dInc 2 1)
theorem sLX5_busyDays_1 {ΓL : Gm} {PB PK : List Nat} : SS (cvoI, .ireturn) miX5_busyDays ΓL PB PK [(0, 2), (1, 0), (2, 0)] [(0, 2), (1, 0), (2, 0)] 4 [51] LX5_busyDays_1 := t_loop (pT := 15) (pF := 51) (pu := 45) (PB' := []) (PK' := []) (XB := [45]) (XU := [48]) (fun _ _ => rfl) rfl (c_lt_F (pF := 51) (s_iload_n dX5_busyDays_4 rfl rfl) (s_getI ck1 1 (by decide) rfl (s_getR ck5 16 (by decide) rfl (s_aload_n dX5_busyDays_5 rfl rfl) dX5_busyDays_6 w1_197) dX5_busyDays_9 w1_93) dX5_busyDays_12 rfl) (t_sq (p1 := 27) (Γ' := [(0, 2), (1, 0), (2, 0), (3, 0)]) (t_istore_n (s_of_xI (x_callN (ts := [(0, 2), (1, 0)]) kX11_cell mokX11_cell w3_229 rfl rfl rfl (a_I (ts := [(0, 2)]) 1 (a_R (ts := []) 0 a_nil (s_getR ck1 6 (by decide) rfl (s_getR ck5 16 (by decide) rfl (s_aload_n dX5_busyDays_15 rfl rfl) dX5_busyDays_16 w1_197) dX5_busyDays_19 w1_107) rfl) (s_iload_n dX5_busyDays_22 rfl rfl) rfl) dX5_busyDays_23 nb13)) dX5_busyDays_26 rfl rfl rfl) (t_istore_n (s_ior (s_iload_n dX5_busyDays_27 rfl rfl) (s_T (pT := 36) (pF := 42) (p1 := 39) (pe := 43) (c_ne_ZF (pF := 42) (s_of_xI (x_callV (ts := [(0, 2), (1, 0)]) ck5 rfl kX5_isDayAhead mokX5_isDayAhead w4_235 w4_236 rfl rfl rfl rfl (a_I (ts := [(0, 2)]) 1 (a_R (ts := []) 0 a_nil (s_aload_n dX5_busyDays_28 rfl rfl) rfl) (s_iload_n dX5_busyDays_29 rfl rfl) rfl) dX5_busyDays_30 w6_63)) dX5_busyDays_33 rfl) (s_ishl (s_iconst dX5_busyDays_36 rfl) (s_iload_n dX5_busyDays_37 rfl rfl) dX5_busyDays_38) (s_iconst dX5_busyDays_42 rfl) (ld_goto (y := 43) dX5_busyDays_39 rfl (ld_in rfl))) dX5_busyDays_43) dX5_busyDays_44 rfl rfl rfl)) (t_iinc dX5_busyDays_45 rfl rfl rfl rfl) (lda_cons (ld_in rfl) lda_nil) lda_nil (lda_cons (ld_goto (y := 4) dX5_busyDays_48 rfl (ld_in rfl)) lda_nil) (ld_in rfl) lda_nil
noncomputable def BX5_busyDays : Sm Int32 := (dSeq (dSetI 1 (cI 0)) (dSeq (dSeq (dSetI 2 (cI 0)) LX5_busyDays_1) (dRet (vI 1))))
theorem sBX5_busyDays : SS (cvoI, .ireturn) miX5_busyDays [] [] [] [(0, 2)] [(0, 2)] 0 [] BX5_busyDays := (t_sq (p1 := 2) (Γ' := [(0, 2), (1, 0)]) (t_istore_n (s_iconst dX5_busyDays_0 rfl) dX5_busyDays_1 rfl rfl rfl) (t_sq (p1 := 51) (Γ' := [(0, 2), (1, 0)]) (t_sq (p1 := 4) (Γ' := [(0, 2), (1, 0), (2, 0)]) (t_istore_n (s_iconst dX5_busyDays_2 rfl) dX5_busyDays_3 rfl rfl rfl) (tn_to (Γ' := [(0, 2), (1, 0), (2, 0)]) (XA := [51]) sLX5_busyDays_1 (lda_cons (ld_in rfl) lda_nil) rfl)) (t_ret (cv := cvI) (fun _ _ => rfl) (s_iload_n dX5_busyDays_51 rfl rfl) dX5_busyDays_52)))
noncomputable def DX5_busyDays : Fr → St → Option (Int32 × St) := M1 (fun f => (sR fr0 0 (gR f 0))) BX5_busyDays
theorem kX5_busyDays : SND yX5_busyDays cX5_busyDays 4 (some .int) 2 [(0, 2)] cvoI DX5_busyDays := snd_I (nw := 1) (by decide) rfl rfl (fun _ _ => rfl) sBX5_busyDays
theorem dX10_fill_0 : decode cX10_fill 0 = .ok (.aload_n 0, 1) := by decide +kernel
theorem dX10_fill_1 : decode cX10_fill 1 = .ok (.getfield 18, 3) := by decide +kernel
theorem dX10_fill_4 : decode cX10_fill 4 = .ok (.ifCond .eq 4, 3) := by decide +kernel
theorem dX10_fill_7 : decode cX10_fill 7 = .ok (.return_, 1) := by decide +kernel
theorem dX10_fill_8 : decode cX10_fill 8 = .ok (.aload_n 0, 1) := by decide +kernel
theorem dX10_fill_9 : decode cX10_fill 9 = .ok (.iconst 1, 1) := by decide +kernel
theorem dX10_fill_10 : decode cX10_fill 10 = .ok (.putfield 18, 3) := by decide +kernel
theorem dX10_fill_13 : decode cX10_fill 13 = .ok (.aload_n 0, 1) := by decide +kernel
theorem dX10_fill_14 : decode cX10_fill 14 = .ok (.getfield 9, 3) := by decide +kernel
theorem dX10_fill_17 : decode cX10_fill 17 = .ok (.lconst 0, 1) := by decide +kernel
theorem dX10_fill_18 : decode cX10_fill 18 = .ok (.invokestatic 22, 3) := by decide +kernel
theorem dX10_fill_21 : decode cX10_fill 21 = .ok (.aload_n 0, 1) := by decide +kernel
theorem dX10_fill_22 : decode cX10_fill 22 = .ok (.getfield 15, 3) := by decide +kernel
theorem dX10_fill_25 : decode cX10_fill 25 = .ok (.lconst 0, 1) := by decide +kernel
theorem dX10_fill_26 : decode cX10_fill 26 = .ok (.invokestatic 22, 3) := by decide +kernel
theorem dX10_fill_29 : decode cX10_fill 29 = .ok (.aload_n 1, 1) := by decide +kernel
theorem dX10_fill_30 : decode cX10_fill 30 = .ok (.invokevirtual 28, 3) := by decide +kernel
theorem dX10_fill_33 : decode cX10_fill 33 = .ok (.istore_n 3, 1) := by decide +kernel
theorem dX10_fill_34 : decode cX10_fill 34 = .ok (.bipush 8, 2) := by decide +kernel
theorem dX10_fill_36 : decode cX10_fill 36 = .ok (.iload_n 3, 1) := by decide +kernel
theorem dX10_fill_37 : decode cX10_fill 37 = .ok (.invokestatic 34, 3) := by decide +kernel
theorem dX10_fill_40 : decode cX10_fill 40 = .ok (.invokestatic 40, 3) := by decide +kernel
theorem dX10_fill_43 : decode cX10_fill 43 = .ok (.istore 4, 2) := by decide +kernel
theorem dX10_fill_45 : decode cX10_fill 45 = .ok (.aload_n 0, 1) := by decide +kernel
theorem dX10_fill_46 : decode cX10_fill 46 = .ok (.bipush 10, 2) := by decide +kernel
theorem dX10_fill_48 : decode cX10_fill 48 = .ok (.iload 4, 2) := by decide +kernel
theorem dX10_fill_50 : decode cX10_fill 50 = .ok (.invokestatic 46, 3) := by decide +kernel
theorem dX10_fill_53 : decode cX10_fill 53 = .ok (.putfield 50, 3) := by decide +kernel
theorem dX10_fill_56 : decode cX10_fill 56 = .ok (.iconst 0, 1) := by decide +kernel
theorem dX10_fill_57 : decode cX10_fill 57 = .ok (.istore 5, 2) := by decide +kernel
theorem dX10_fill_59 : decode cX10_fill 59 = .ok (.iconst 0, 1) := by decide +kernel
theorem dX10_fill_60 : decode cX10_fill 60 = .ok (.istore 6, 2) := by decide +kernel
theorem dX10_fill_62 : decode cX10_fill 62 = .ok (.iload 6, 2) := by decide +kernel
theorem dX10_fill_64 : decode cX10_fill 64 = .ok (.iconst 1, 1) := by decide +kernel
theorem dX10_fill_65 : decode cX10_fill 65 = .ok (.iload 4, 2) := by decide +kernel
theorem dX10_fill_67 : decode cX10_fill 67 = .ok (.ishl, 1) := by decide +kernel
theorem dX10_fill_68 : decode cX10_fill 68 = .ok (.if_icmp .ge 82, 3) := by decide +kernel
theorem dX10_fill_71 : decode cX10_fill 71 = .ok (.iload 5, 2) := by decide +kernel
theorem dX10_fill_73 : decode cX10_fill 73 = .ok (.invokestatic 34, 3) := by decide +kernel
theorem dX10_fill_76 : decode cX10_fill 76 = .ok (.istore 7, 2) := by decide +kernel
theorem dX10_fill_78 : decode cX10_fill 78 = .ok (.aload_n 1, 1) := by decide +kernel
theorem dX10_fill_79 : decode cX10_fill 79 = .ok (.getfield 54, 3) := by decide +kernel
theorem dX10_fill_82 : decode cX10_fill 82 = .ok (.iload 7, 2) := by decide +kernel
theorem dX10_fill_84 : decode cX10_fill 84 = .ok (.invokestatic 46, 3) := by decide +kernel
theorem dX10_fill_87 : decode cX10_fill 87 = .ok (.bipush 10, 2) := by decide +kernel
theorem dX10_fill_89 : decode cX10_fill 89 = .ok (.aload_n 1, 1) := by decide +kernel
theorem dX10_fill_90 : decode cX10_fill 90 = .ok (.getfield 54, 3) := by decide +kernel
theorem dX10_fill_93 : decode cX10_fill 93 = .ok (.isub, 1) := by decide +kernel
theorem dX10_fill_94 : decode cX10_fill 94 = .ok (.iload 4, 2) := by decide +kernel
theorem dX10_fill_96 : decode cX10_fill 96 = .ok (.iload 7, 2) := by decide +kernel
theorem dX10_fill_98 : decode cX10_fill 98 = .ok (.isub, 1) := by decide +kernel
theorem dX10_fill_99 : decode cX10_fill 99 = .ok (.invokestatic 46, 3) := by decide +kernel
theorem dX10_fill_102 : decode cX10_fill 102 = .ok (.lmul, 1) := by decide +kernel
theorem dX10_fill_103 : decode cX10_fill 103 = .ok (.lstore 8, 2) := by decide +kernel
theorem dX10_fill_105 : decode cX10_fill 105 = .ok (.lload 8, 2) := by decide +kernel
theorem dX10_fill_107 : decode cX10_fill 107 = .ok (.lconst 0, 1) := by decide +kernel
theorem dX10_fill_108 : decode cX10_fill 108 = .ok (.lcmp, 1) := by decide +kernel
theorem dX10_fill_109 : decode cX10_fill 109 = .ok (.ifCond .le 27, 3) := by decide +kernel
theorem dX10_fill_112 : decode cX10_fill 112 = .ok (.aload_n 2, 1) := by decide +kernel
theorem dX10_fill_113 : decode cX10_fill 113 = .ok (.aload_n 1, 1) := by decide +kernel
theorem dX10_fill_114 : decode cX10_fill 114 = .ok (.invokevirtual 58, 3) := by decide +kernel
theorem dX10_fill_117 : decode cX10_fill 117 = .ok (.aload_n 2, 1) := by decide +kernel
theorem dX10_fill_118 : decode cX10_fill 118 = .ok (.iload 5, 2) := by decide +kernel
theorem dX10_fill_120 : decode cX10_fill 120 = .ok (.putfield 64, 3) := by decide +kernel
theorem dX10_fill_123 : decode cX10_fill 123 = .ok (.aload_n 2, 1) := by decide +kernel
theorem dX10_fill_124 : decode cX10_fill 124 = .ok (.aload_n 1, 1) := by decide +kernel
theorem dX10_fill_125 : decode cX10_fill 125 = .ok (.invokevirtual 67, 3) := by decide +kernel
theorem dX10_fill_128 : decode cX10_fill 128 = .ok (.aload_n 0, 1) := by decide +kernel
theorem dX10_fill_129 : decode cX10_fill 129 = .ok (.aload_n 1, 1) := by decide +kernel
theorem dX10_fill_130 : decode cX10_fill 130 = .ok (.aload_n 2, 1) := by decide +kernel
theorem dX10_fill_131 : decode cX10_fill 131 = .ok (.lload 8, 2) := by decide +kernel
theorem dX10_fill_133 : decode cX10_fill 133 = .ok (.invokevirtual 70, 3) := by decide +kernel
theorem dX10_fill_136 : decode cX10_fill 136 = .ok (.iload 5, 2) := by decide +kernel
theorem dX10_fill_138 : decode cX10_fill 138 = .ok (.iload_n 3, 1) := by decide +kernel
theorem dX10_fill_139 : decode cX10_fill 139 = .ok (.isub, 1) := by decide +kernel
theorem dX10_fill_140 : decode cX10_fill 140 = .ok (.iload_n 3, 1) := by decide +kernel
theorem dX10_fill_141 : decode cX10_fill 141 = .ok (.iand, 1) := by decide +kernel
theorem dX10_fill_142 : decode cX10_fill 142 = .ok (.istore 5, 2) := by decide +kernel
theorem dX10_fill_144 : decode cX10_fill 144 = .ok (.iinc 6 1, 3) := by decide +kernel
theorem dX10_fill_147 : decode cX10_fill 147 = .ok (.goto (-85), 3) := by decide +kernel
theorem dX10_fill_150 : decode cX10_fill 150 = .ok (.return_, 1) := by decide +kernel
theorem mokX10_fill : MOK yX10_fill cX10_fill 10 none 2 := ⟨w6_55, w1_11, ⟨by decide, by decide⟩, by decide +kernel, by decide⟩
abbrev miX10_fill : MI := (yX10_fill.cls, cX10_fill, 10, 7, false)
noncomputable def LX10_fill_1 : Sm Unit := dLoop (fun f => (sI (sI (sI (sI (sR (sR (sR fr0 0 (gR f 0)) 1 (gR f 1)) 2 (gR f 2)) 3 (gI f 3)) 4 (gI f 4)) 5 (gI f 5)) 6 (gI f 6))) (dCI r_lt (vI 6) (d2 o_ishl (cI 1) (vI 4))) (dSeq (dSetI 7 (dCall DJ6_bitCount_0f7a4 (aI aN 0 (vI 5)))) (dSeq (dSetL 8 (d2 o_lmul (dCall DX10_power (aI (aI aN 0 (dGI 5 3 (vR 1))) 1 (vI 7))) (dCall DX10_power (aI (aI aN 0 (d2 o_isub (cI 10) (dGI 5 3 (vR 1)))) 1 (d2 o_isub (vI 4) (vI 7)))))) (dSeq (dIf (dCZ q_gt (d2 o_lcmp (vL 8) (cL 0))) (dSeq (dDo (dCallV 2 DX2_setAsTold (aR (aR aN 0 (vR 2)) 1 (vR 1)))) (dSeq (dP (fI 2 3) (vR 2) (vI 5)) (dSeq (dDo (dCallV 2 DX2_runThrough (aR (aR aN 0 (vR 2)) 1 (vR 1)))) (dDo (dCallV 10 DX10_addUp (aL (aR (aR (aR aN 0 (vR 0)) 1 (vR 1)) 2 (vR 2)) 3 (vL 8))))))) dSkip) (dSetI 5 (d2 o_iand (d2 o_isub (vI 5) (vI 3)) (vI 3)))))) (dInc 6 1)
theorem sLX10_fill_1 {ΓL : Gm} {PB PK : List Nat} : SS (cvoV, .return_) miX10_fill ΓL PB PK [(0, 2), (1, 2), (2, 2), (3, 0), (4, 0), (5, 0), (6, 0)] [(0, 2), (1, 2), (2, 2), (3, 0), (4, 0), (5, 0), (6, 0)] 62 [150] LX10_fill_1 := t_loop (pT := 71) (pF := 150) (pu := 144) (PB' := []) (PK' := []) (XB := [144]) (XU := [147]) (fun _ _ => rfl) rfl (c_lt_F (pF := 150) (s_iload dX10_fill_62 rfl) (s_ishl (s_iconst dX10_fill_64 rfl) (s_iload dX10_fill_65 rfl) dX10_fill_67) dX10_fill_68 rfl) (t_sq (p1 := 78) (Γ' := [(0, 2), (1, 2), (2, 2), (3, 0), (4, 0), (5, 0), (6, 0), (7, 0)]) (t_istore (s_of_xI (x_call (ts := [(0, 0)]) kJ6_bitCount_0f7a4 mokJ6_bitCount_0f7a4 w5_28 rfl rfl rfl (a_I (ts := []) 0 a_nil (s_iload dX10_fill_71 rfl) rfl) dX10_fill_73 w6_64)) dX10_fill_76 rfl rfl) (t_sq (p1 := 105) (Γ' := [(0, 2), (1, 2), (2, 2), (3, 0), (4, 0), (5, 0), (6, 0), (7, 0), (8, 1)]) (t_lstore (s_lmul (s_of_xL (x_call (ts := [(0, 0), (1, 0)]) kX10_power mokX10_power w6_67 rfl rfl rfl (a_I (ts := [(0, 0)]) 1 (a_I (ts := []) 0 a_nil (s_getI ck5 3 (by decide) rfl (s_aload_n dX10_fill_78 rfl rfl) dX10_fill_79 w1_146) rfl) (s_iload dX10_fill_82 rfl) rfl) dX10_fill_84 w6_66)) (s_of_xL (x_call (ts := [(0, 0), (1, 0)]) kX10_power mokX10_power w6_67 rfl rfl rfl (a_I (ts := [(0, 0)]) 1 (a_I (ts := []) 0 a_nil (s_isub (s_bipush dX10_fill_87 rfl) (s_getI ck5 3 (by decide) rfl (s_aload_n dX10_fill_89 rfl rfl) dX10_fill_90 w1_146) dX10_fill_93) rfl) (s_isub (s_iload dX10_fill_94 rfl) (s_iload dX10_fill_96 rfl) dX10_fill_98) rfl) dX10_fill_99 w6_66)) dX10_fill_102) dX10_fill_103 rfl rfl) (t_sq (p1 := 136) (Γ' := [(0, 2), (1, 2), (2, 2), (3, 0), (4, 0), (5, 0), (6, 0), (7, 0), (8, 1)]) (t_if (pT := 112) (pF := 136) (X := [136]) (XA := [136]) (XB := [136]) (c_gt_ZF (pF := 136) (s_lcmp (s_lload dX10_fill_105 rfl) (s_lconst dX10_fill_107 rfl) dX10_fill_108) dX10_fill_109 rfl) (t_sq (p1 := 117) (Γ' := [(0, 2), (1, 2), (2, 2), (3, 0), (4, 0), (5, 0), (6, 0), (7, 0), (8, 1)]) (t_do (x_callV (ts := [(0, 2), (1, 2)]) ck2 rfl kX2_setAsTold mokX2_setAsTold w4_84 w4_85 rfl rfl rfl rfl (a_R (ts := [(0, 2)]) 1 (a_R (ts := []) 0 a_nil (s_aload_n dX10_fill_112 rfl rfl) rfl) (s_aload_n dX10_fill_113 rfl rfl) rfl) dX10_fill_114 w6_69) rfl) (t_sq (p1 := 123) (Γ' := [(0, 2), (1, 2), (2, 2), (3, 0), (4, 0), (5, 0), (6, 0), (7, 0), (8, 1)]) (t_pI ck2 3 (by decide) rfl (Or.inl rfl) (s_aload_n dX10_fill_117 rfl rfl) (s_iload dX10_fill_118 rfl) dX10_fill_120 w2_33 rfl) (t_sq (p1 := 128) (Γ' := [(0, 2), (1, 2), (2, 2), (3, 0), (4, 0), (5, 0), (6, 0), (7, 0), (8, 1)]) (t_do (x_callV (ts := [(0, 2), (1, 2)]) ck2 rfl kX2_runThrough mokX2_runThrough w6_30 w6_31 rfl rfl rfl rfl (a_R (ts := [(0, 2)]) 1 (a_R (ts := []) 0 a_nil (s_aload_n dX10_fill_123 rfl rfl) rfl) (s_aload_n dX10_fill_124 rfl rfl) rfl) dX10_fill_125 w6_70) rfl) (t_do (x_callV (ts := [(0, 2), (1, 2), (2, 2), (3, 1)]) ck10 rfl kX10_addUp mokX10_addUp w6_73 ps3_4 rfl rfl rfl rfl (a_L (ts := [(0, 2), (1, 2), (2, 2)]) 3 (a_R (ts := [(0, 2), (1, 2)]) 2 (a_R (ts := [(0, 2)]) 1 (a_R (ts := []) 0 a_nil (s_aload_n dX10_fill_128 rfl rfl) rfl) (s_aload_n dX10_fill_129 rfl rfl) rfl) (s_aload_n dX10_fill_130 rfl rfl) rfl) (s_lload dX10_fill_131 rfl) rfl) dX10_fill_133 w6_71) rfl)))) (t_skip (ld_in rfl) rfl) (lda_cons (ld_in rfl) lda_nil) (lda_cons (ld_in rfl) lda_nil)) (t_istore (s_iand (s_isub (s_iload dX10_fill_136 rfl) (s_iload_n dX10_fill_138 rfl rfl) dX10_fill_139) (s_iload_n dX10_fill_140 rfl rfl) dX10_fill_141) dX10_fill_142 rfl rfl)))) (t_iinc dX10_fill_144 rfl rfl rfl rfl) (lda_cons (ld_in rfl) lda_nil) lda_nil (lda_cons (ld_goto (y := 62) dX10_fill_147 rfl (ld_in rfl)) lda_nil) (ld_in rfl) lda_nil
noncomputable def BX10_fill : Sm Unit := (dSeq (dIf (dCZ q_ne (dGI 10 0 (vR 0))) dRet0 dSkip) (dSeq (dP (fZ 10 0) (vR 0) (cI 1)) (dSeq (dDo (dCall DJ7_fill_d0a16 (aL (aR aN 0 (dGR 10 2 (vR 0))) 1 (cL 0)))) (dSeq (dDo (dCall DJ7_fill_d0a16 (aL (aR aN 0 (dGR 10 3 (vR 0))) 1 (cL 0)))) (dSeq (dSetI 3 (dCallV 5 DX5_busyDays (aR aN 0 (vR 1)))) (dSeq (dSetI 4 (d2 o_imin (cI 8) (dCall DJ6_bitCount_0f7a4 (aI aN 0 (vI 3))))) (dSeq (dP (fL 10 1) (vR 0) (dCall DX10_power (aI (aI aN 0 (cI 10)) 1 (vI 4)))) (dSeq (dSetI 5 (cI 0)) (dSeq (dSeq (dSetI 6 (cI 0)) LX10_fill_1) dRet0)))))))))
theorem sBX10_fill : SS (cvoV, .return_) miX10_fill [] [] [] [(0, 2), (1, 2), (2, 2)] [(0, 2), (1, 2), (2, 2)] 0 [] BX10_fill := (t_sq (p1 := 8) (Γ' := [(0, 2), (1, 2), (2, 2)]) (t_if (pT := 7) (pF := 8) (X := [8]) (XA := []) (XB := [8]) (c_ne_ZF (pF := 8) (s_getI ck10 0 (by decide) rfl (s_aload_n dX10_fill_0 rfl rfl) dX10_fill_1 w2_189) dX10_fill_4 rfl) (t_ret0 (fun _ _ => rfl) dX10_fill_7) (t_skip (ld_in rfl) rfl) lda_nil (lda_cons (ld_in rfl) lda_nil)) (t_sq (p1 := 13) (Γ' := [(0, 2), (1, 2), (2, 2)]) (t_pZ ck10 0 (by decide) rfl (Or.inl rfl) (s_aload_n dX10_fill_8 rfl rfl) (s_iconst dX10_fill_9 rfl) dX10_fill_10 w2_189 rfl) (t_sq (p1 := 21) (Γ' := [(0, 2), (1, 2), (2, 2)]) (t_do (x_call (ts := [(0, 2), (1, 1)]) kJ7_fill_d0a16 mokJ7_fill_d0a16 w6_57 rfl rfl rfl (a_L (ts := [(0, 2)]) 1 (a_R (ts := []) 0 a_nil (s_getR ck10 2 (by decide) rfl (s_aload_n dX10_fill_13 rfl rfl) dX10_fill_14 w2_193) rfl) (s_lconst dX10_fill_17 rfl) rfl) dX10_fill_18 w6_56) rfl) (t_sq (p1 := 29) (Γ' := [(0, 2), (1, 2), (2, 2)]) (t_do (x_call (ts := [(0, 2), (1, 1)]) kJ7_fill_d0a16 mokJ7_fill_d0a16 w6_57 rfl rfl rfl (a_L (ts := [(0, 2)]) 1 (a_R (ts := []) 0 a_nil (s_getR ck10 3 (by decide) rfl (s_aload_n dX10_fill_21 rfl rfl) dX10_fill_22 w2_194) rfl) (s_lconst dX10_fill_25 rfl) rfl) dX10_fill_26 w6_56) rfl) (t_sq (p1 := 34) (Γ' := [(0, 2), (1, 2), (2, 2), (3, 0)]) (t_istore_n (s_of_xI (x_callV (ts := [(0, 2)]) ck5 rfl kX5_busyDays mokX5_busyDays w6_60 w6_61 rfl rfl rfl rfl (a_R (ts := []) 0 a_nil (s_aload_n dX10_fill_29 rfl rfl) rfl) dX10_fill_30 w6_59)) dX10_fill_33 rfl rfl rfl) (t_sq (p1 := 45) (Γ' := [(0, 2), (1, 2), (2, 2), (3, 0), (4, 0)]) (t_istore (s_mmin (s_bipush dX10_fill_34 rfl) (s_of_xI (x_call (ts := [(0, 0)]) kJ6_bitCount_0f7a4 mokJ6_bitCount_0f7a4 w5_28 rfl rfl rfl (a_I (ts := []) 0 a_nil (s_iload_n dX10_fill_36 rfl rfl) rfl) dX10_fill_37 w6_64)) rfl rfl dX10_fill_40 w6_65) dX10_fill_43 rfl rfl) (t_sq (p1 := 56) (Γ' := [(0, 2), (1, 2), (2, 2), (3, 0), (4, 0)]) (t_pL ck10 1 (by decide) rfl (Or.inl rfl) (s_aload_n dX10_fill_45 rfl rfl) (s_of_xL (x_call (ts := [(0, 0), (1, 0)]) kX10_power mokX10_power w6_67 rfl rfl rfl (a_I (ts := [(0, 0)]) 1 (a_I (ts := []) 0 a_nil (s_bipush dX10_fill_46 rfl) rfl) (s_iload dX10_fill_48 rfl) rfl) dX10_fill_50 w6_66)) dX10_fill_53 w2_191 rfl) (t_sq (p1 := 59) (Γ' := [(0, 2), (1, 2), (2, 2), (3, 0), (4, 0), (5, 0)]) (t_istore (s_iconst dX10_fill_56 rfl) dX10_fill_57 rfl rfl) (t_sq (p1 := 150) (Γ' := [(0, 2), (1, 2), (2, 2), (3, 0), (4, 0), (5, 0)]) (t_sq (p1 := 62) (Γ' := [(0, 2), (1, 2), (2, 2), (3, 0), (4, 0), (5, 0), (6, 0)]) (t_istore (s_iconst dX10_fill_59 rfl) dX10_fill_60 rfl rfl) (tn_to (Γ' := [(0, 2), (1, 2), (2, 2), (3, 0), (4, 0), (5, 0), (6, 0)]) (XA := [150]) sLX10_fill_1 (lda_cons (ld_in rfl) lda_nil) rfl)) (t_ret0 (fun _ _ => rfl) dX10_fill_150))))))))))
noncomputable def DX10_fill : Fr → St → Option (Unit × St) := M1 (fun f => (sR (sR (sR fr0 0 (gR f 0)) 1 (gR f 1)) 2 (gR f 2))) BX10_fill
theorem kX10_fill : SND yX10_fill cX10_fill 10 none 7 [(0, 2), (1, 2), (2, 2)] cvoV DX10_fill := snd_V (nw := 3) (by decide) (fun z => by cases z) rfl rfl (fun _ _ => rfl) sBX10_fill
theorem dX10_likelyKnown_0 : decode cX10_likelyKnown 0 = .ok (.iload_n 2, 1) := by decide +kernel
theorem dX10_likelyKnown_1 : decode cX10_likelyKnown 1 = .ok (.bipush 8, 2) := by decide +kernel
theorem dX10_likelyKnown_3 : decode cX10_likelyKnown 3 = .ok (.imul, 1) := by decide +kernel
theorem dX10_likelyKnown_4 : decode cX10_likelyKnown 4 = .ok (.iload_n 1, 1) := by decide +kernel
theorem dX10_likelyKnown_5 : decode cX10_likelyKnown 5 = .ok (.iadd, 1) := by decide +kernel
theorem dX10_likelyKnown_6 : decode cX10_likelyKnown 6 = .ok (.istore_n 3, 1) := by decide +kernel
theorem dX10_likelyKnown_7 : decode cX10_likelyKnown 7 = .ok (.iload_n 3, 1) := by decide +kernel
theorem dX10_likelyKnown_8 : decode cX10_likelyKnown 8 = .ok (.ifCond .lt 21, 3) := by decide +kernel
theorem dX10_likelyKnown_11 : decode cX10_likelyKnown 11 = .ok (.iload_n 3, 1) := by decide +kernel
theorem dX10_likelyKnown_12 : decode cX10_likelyKnown 12 = .ok (.aload_n 0, 1) := by decide +kernel
theorem dX10_likelyKnown_13 : decode cX10_likelyKnown 13 = .ok (.getfield 9, 3) := by decide +kernel
theorem dX10_likelyKnown_16 : decode cX10_likelyKnown 16 = .ok (.arraylength, 1) := by decide +kernel
theorem dX10_likelyKnown_17 : decode cX10_likelyKnown 17 = .ok (.if_icmp .ge 12, 3) := by decide +kernel
theorem dX10_likelyKnown_20 : decode cX10_likelyKnown 20 = .ok (.aload_n 0, 1) := by decide +kernel
theorem dX10_likelyKnown_21 : decode cX10_likelyKnown 21 = .ok (.getfield 9, 3) := by decide +kernel
theorem dX10_likelyKnown_24 : decode cX10_likelyKnown 24 = .ok (.iload_n 3, 1) := by decide +kernel
theorem dX10_likelyKnown_25 : decode cX10_likelyKnown 25 = .ok (.laload, 1) := by decide +kernel
theorem dX10_likelyKnown_26 : decode cX10_likelyKnown 26 = .ok (.goto 4, 3) := by decide +kernel
theorem dX10_likelyKnown_29 : decode cX10_likelyKnown 29 = .ok (.lconst 0, 1) := by decide +kernel
theorem dX10_likelyKnown_30 : decode cX10_likelyKnown 30 = .ok (.lreturn, 1) := by decide +kernel
theorem mokX10_likelyKnown : MOK yX10_likelyKnown cX10_likelyKnown 4 (some .long) 2 := ⟨w6_80, w1_11, ⟨by decide, by decide⟩, by decide +kernel, by decide⟩
abbrev miX10_likelyKnown : MI := (yX10_likelyKnown.cls, cX10_likelyKnown, 4, 1, false)
noncomputable def BX10_likelyKnown : Sm Int64 := (dSeq (dSetI 3 (d2 o_iadd (d2 o_imul (vI 2) (cI 8)) (vI 1))) (dRet (dT (dAnd (dCZ q_ge (vI 3)) (dCI r_lt (vI 3) (dLen (dGR 10 2 (vR 0))))) (dAL (dGR 10 2 (vR 0)) (vI 3)) (cL 0))))
theorem sBX10_likelyKnown : SS (cvoL, .lreturn) miX10_likelyKnown [] [] [] [(0, 2), (1, 0), (2, 0)] [(0, 2), (1, 0), (2, 0)] 0 [] BX10_likelyKnown := (t_sq (p1 := 7) (Γ' := [(0, 2), (1, 0), (2, 0), (3, 0)]) (t_istore_n (s_iadd (s_imul (s_iload_n dX10_likelyKnown_0 rfl rfl) (s_bipush dX10_likelyKnown_1 rfl) dX10_likelyKnown_3) (s_iload_n dX10_likelyKnown_4 rfl rfl) dX10_likelyKnown_5) dX10_likelyKnown_6 rfl rfl rfl) (t_ret (cv := cvL) (fun _ _ => rfl) (s_T (pT := 20) (pF := 29) (p1 := 26) (pe := 30) (c_and (p1 := 11) (pT := 20) (pF := 29) (c_ge_ZF (pF := 29) (s_iload_n dX10_likelyKnown_7 rfl rfl) dX10_likelyKnown_8 rfl) (c_lt_F (pF := 29) (s_iload_n dX10_likelyKnown_11 rfl rfl) (s_len (s_getR ck10 2 (by decide) rfl (s_aload_n dX10_likelyKnown_12 rfl rfl) dX10_likelyKnown_13 w2_193) dX10_likelyKnown_16) dX10_likelyKnown_17 rfl)) (s_dAL (s_getR ck10 2 (by decide) rfl (s_aload_n dX10_likelyKnown_20 rfl rfl) dX10_likelyKnown_21 w2_193) (s_iload_n dX10_likelyKnown_24 rfl rfl) dX10_likelyKnown_25) (s_lconst dX10_likelyKnown_29 rfl) (ld_goto (y := 30) dX10_likelyKnown_26 rfl (ld_in rfl))) dX10_likelyKnown_30))
noncomputable def DX10_likelyKnown : Fr → St → Option (Int64 × St) := M1 (fun f => (sI (sI (sR fr0 0 (gR f 0)) 1 (gI f 1)) 2 (gI f 2))) BX10_likelyKnown
theorem kX10_likelyKnown : SND yX10_likelyKnown cX10_likelyKnown 4 (some .long) 1 [(0, 2), (1, 0), (2, 0)] cvoL DX10_likelyKnown := snd_L (nw := 3) (by decide) rfl rfl (fun _ _ => rfl) sBX10_likelyKnown
theorem dX11_chance_0 : decode cX11_chance 0 = .ok (.aload_n 0, 1) := by decide +kernel
theorem dX11_chance_1 : decode cX11_chance 1 = .ok (.getfield 26, 3) := by decide +kernel
theorem dX11_chance_4 : decode cX11_chance 4 = .ok (.iload_n 1, 1) := by decide +kernel
theorem dX11_chance_5 : decode cX11_chance 5 = .ok (.invokevirtual 140, 3) := by decide +kernel
theorem dX11_chance_8 : decode cX11_chance 8 = .ok (.ifCond .eq 21, 3) := by decide +kernel
theorem dX11_chance_11 : decode cX11_chance 11 = .ok (.aload_n 0, 1) := by decide +kernel
theorem dX11_chance_12 : decode cX11_chance 12 = .ok (.getfield 26, 3) := by decide +kernel
theorem dX11_chance_15 : decode cX11_chance 15 = .ok (.iload_n 2, 1) := by decide +kernel
theorem dX11_chance_16 : decode cX11_chance 16 = .ok (.invokevirtual 117, 3) := by decide +kernel
theorem dX11_chance_19 : decode cX11_chance 19 = .ok (.ifCond .eq 10, 3) := by decide +kernel
theorem dX11_chance_22 : decode cX11_chance 22 = .ok (.iload_n 3, 1) := by decide +kernel
theorem dX11_chance_23 : decode cX11_chance 23 = .ok (.invokestatic 131, 3) := by decide +kernel
theorem dX11_chance_26 : decode cX11_chance 26 = .ok (.ifCond .ne 6, 3) := by decide +kernel
theorem dX11_chance_29 : decode cX11_chance 29 = .ok (.bipush (-2), 2) := by decide +kernel
theorem dX11_chance_31 : decode cX11_chance 31 = .ok (.ireturn, 1) := by decide +kernel
theorem dX11_chance_32 : decode cX11_chance 32 = .ok (.aload_n 0, 1) := by decide +kernel
theorem dX11_chance_33 : decode cX11_chance 33 = .ok (.getfield 26, 3) := by decide +kernel
theorem dX11_chance_36 : decode cX11_chance 36 = .ok (.getfield 200, 3) := by decide +kernel
theorem dX11_chance_39 : decode cX11_chance 39 = .ok (.bipush 8, 2) := by decide +kernel
theorem dX11_chance_41 : decode cX11_chance 41 = .ok (.if_icmp .le 6, 3) := by decide +kernel
theorem dX11_chance_44 : decode cX11_chance 44 = .ok (.bipush (-3), 2) := by decide +kernel
theorem dX11_chance_46 : decode cX11_chance 46 = .ok (.ireturn, 1) := by decide +kernel
theorem dX11_chance_47 : decode cX11_chance 47 = .ok (.aload_n 0, 1) := by decide +kernel
theorem dX11_chance_48 : decode cX11_chance 48 = .ok (.getfield 71, 3) := by decide +kernel
theorem dX11_chance_51 : decode cX11_chance 51 = .ok (.aload_n 0, 1) := by decide +kernel
theorem dX11_chance_52 : decode cX11_chance 52 = .ok (.getfield 26, 3) := by decide +kernel
theorem dX11_chance_55 : decode cX11_chance 55 = .ok (.aload_n 0, 1) := by decide +kernel
theorem dX11_chance_56 : decode cX11_chance 56 = .ok (.getfield 51, 3) := by decide +kernel
theorem dX11_chance_59 : decode cX11_chance 59 = .ok (.getfield 332, 3) := by decide +kernel
theorem dX11_chance_62 : decode cX11_chance 62 = .ok (.invokevirtual 369, 3) := by decide +kernel
theorem dX11_chance_65 : decode cX11_chance 65 = .ok (.aload_n 0, 1) := by decide +kernel
theorem dX11_chance_66 : decode cX11_chance 66 = .ok (.getfield 71, 3) := by decide +kernel
theorem dX11_chance_69 : decode cX11_chance 69 = .ok (.iload_n 2, 1) := by decide +kernel
theorem dX11_chance_70 : decode cX11_chance 70 = .ok (.iload_n 1, 1) := by decide +kernel
theorem dX11_chance_71 : decode cX11_chance 71 = .ok (.invokevirtual 372, 3) := by decide +kernel
theorem dX11_chance_74 : decode cX11_chance 74 = .ok (.aload_n 0, 1) := by decide +kernel
theorem dX11_chance_75 : decode cX11_chance 75 = .ok (.getfield 71, 3) := by decide +kernel
theorem dX11_chance_78 : decode cX11_chance 78 = .ok (.getfield 376, 3) := by decide +kernel
theorem dX11_chance_81 : decode cX11_chance 81 = .ok (.iload_n 3, 1) := by decide +kernel
theorem dX11_chance_82 : decode cX11_chance 82 = .ok (.invokestatic 298, 3) := by decide +kernel
theorem dX11_chance_85 : decode cX11_chance 85 = .ok (.l2i, 1) := by decide +kernel
theorem dX11_chance_86 : decode cX11_chance 86 = .ok (.ireturn, 1) := by decide +kernel
theorem mokX11_chance : MOK yX11_chance cX11_chance 4 (some .int) 3 := ⟨w6_51, w1_1, ⟨by decide, by decide⟩, by decide +kernel, by decide⟩
abbrev miX11_chance : MI := (yX11_chance.cls, cX11_chance, 4, 8, false)
noncomputable def BX11_chance : Sm Int32 := (dSeq (dIf (dOr (dOr (dNot (dCZ q_ne (dCallV 5 DX5_isSlate (aI (aR aN 0 (dGR 11 2 (vR 0))) 1 (vI 1))))) (dNot (dCZ q_ne (dCallV 5 DX5_isHouse (aI (aR aN 0 (dGR 11 2 (vR 0))) 1 (vI 2)))))) (dNot (dCZ q_ne (dCall DX11_isChoice (aI aN 0 (vI 3)))))) (dRet (cI (-2))) dSkip) (dSeq (dIf (dCI r_gt (dGI 5 1 (dGR 11 2 (vR 0))) (cI 8)) (dRet (cI (-3))) dSkip) (dSeq (dDo (dCallV 10 DX10_fill (aR (aR (aR aN 0 (dGR 11 10 (vR 0))) 1 (dGR 11 2 (vR 0))) 2 (dGR 3 1 (dGR 11 7 (vR 0)))))) (dRet (d1 o_l2i (dCall DX11_inLowestTerms (aI (aL (aL aN 0 (dCallV 10 DX10_likelyKnown (aI (aI (aR aN 0 (dGR 11 10 (vR 0))) 1 (vI 2)) 2 (vI 1)))) 2 (dGL 10 1 (dGR 11 10 (vR 0)))) 4 (vI 3))))))))
theorem sBX11_chance : SS (cvoI, .ireturn) miX11_chance [] [] [] [(0, 2), (1, 0), (2, 0), (3, 0)] [(0, 2), (1, 0), (2, 0), (3, 0)] 0 [] BX11_chance := (t_sq (p1 := 32) (Γ' := [(0, 2), (1, 0), (2, 0), (3, 0)]) (t_if (pT := 29) (pF := 32) (X := [32]) (XA := []) (XB := [32]) (c_or (p1 := 22) (pT := 29) (pF := 32) (c_or (p1 := 11) (pT := 29) (pF := 22) (c_not (pT := 29) (pF := 11) (c_ne_ZF (pF := 29) (s_of_xI (x_callV (ts := [(0, 2), (1, 0)]) ck5 rfl kX5_isSlate mokX5_isSlate w4_7 w4_8 rfl rfl rfl rfl (a_I (ts := [(0, 2)]) 1 (a_R (ts := []) 0 a_nil (s_getR ck11 2 (by decide) rfl (s_aload_n dX11_chance_0 rfl rfl) dX11_chance_1 w2_220) rfl) (s_iload_n dX11_chance_4 rfl rfl) rfl) dX11_chance_5 w4_6)) dX11_chance_8 rfl)) (c_not (pT := 29) (pF := 22) (c_ne_ZF (pF := 29) (s_of_xI (x_callV (ts := [(0, 2), (1, 0)]) ck5 rfl kX5_isHouse mokX5_isHouse w3_225 w3_226 rfl rfl rfl rfl (a_I (ts := [(0, 2)]) 1 (a_R (ts := []) 0 a_nil (s_getR ck11 2 (by decide) rfl (s_aload_n dX11_chance_11 rfl rfl) dX11_chance_12 w2_220) rfl) (s_iload_n dX11_chance_15 rfl rfl) rfl) dX11_chance_16 w3_224)) dX11_chance_19 rfl))) (c_not (pT := 29) (pF := 32) (c_ne_ZJ (pT := 32) (s_of_xI (x_call (ts := [(0, 0)]) kX11_isChoice mokX11_isChoice w4_0 rfl rfl rfl (a_I (ts := []) 0 a_nil (s_iload_n dX11_chance_22 rfl rfl) rfl) dX11_chance_23 w3_239)) dX11_chance_26 rfl))) (t_ret (cv := cvI) (fun _ _ => rfl) (s_bipush dX11_chance_29 rfl) dX11_chance_31) (t_skip (ld_in rfl) rfl) lda_nil (lda_cons (ld_in rfl) lda_nil)) (t_sq (p1 := 47) (Γ' := [(0, 2), (1, 0), (2, 0), (3, 0)]) (t_if (pT := 44) (pF := 47) (X := [47]) (XA := []) (XB := [47]) (c_gt_F (pF := 47) (s_getI ck5 1 (by decide) rfl (s_getR ck11 2 (by decide) rfl (s_aload_n dX11_chance_32 rfl rfl) dX11_chance_33 w2_220) dX11_chance_36 w1_139) (s_bipush dX11_chance_39 rfl) dX11_chance_41 rfl) (t_ret (cv := cvI) (fun _ _ => rfl) (s_bipush dX11_chance_44 rfl) dX11_chance_46) (t_skip (ld_in rfl) rfl) lda_nil (lda_cons (ld_in rfl) lda_nil)) (t_sq (p1 := 65) (Γ' := [(0, 2), (1, 0), (2, 0), (3, 0)]) (t_do (x_callV (ts := [(0, 2), (1, 2), (2, 2)]) ck10 rfl kX10_fill mokX10_fill w6_53 w6_54 rfl rfl rfl rfl (a_R (ts := [(0, 2), (1, 2)]) 2 (a_R (ts := [(0, 2)]) 1 (a_R (ts := []) 0 a_nil (s_getR ck11 10 (by decide) rfl (s_aload_n dX11_chance_47 rfl rfl) dX11_chance_48 w2_228) rfl) (s_getR ck11 2 (by decide) rfl (s_aload_n dX11_chance_51 rfl rfl) dX11_chance_52 w2_220) rfl) (s_getR ck3 1 (by decide) rfl (s_getR ck11 7 (by decide) rfl (s_aload_n dX11_chance_55 rfl rfl) dX11_chance_56 w2_225) dX11_chance_59 w2_91) rfl) dX11_chance_62 w6_52) rfl) (t_ret (cv := cvI) (fun _ _ => rfl) (s_l2i (s_of_xL (x_call (ts := [(0, 1), (2, 1), (4, 0)]) kX11_inLowestTerms mokX11_inLowestTerms w5_164 rfl rfl rfl (a_I (ts := [(0, 1), (2, 1)]) 4 (a_L (ts := [(0, 1)]) 2 (a_L (ts := []) 0 a_nil (s_of_xL (x_callV (ts := [(0, 2), (1, 0), (2, 0)]) ck10 rfl kX10_likelyKnown mokX10_likelyKnown w6_78 w6_79 rfl rfl rfl rfl (a_I (ts := [(0, 2), (1, 0)]) 2 (a_I (ts := [(0, 2)]) 1 (a_R (ts := []) 0 a_nil (s_getR ck11 10 (by decide) rfl (s_aload_n dX11_chance_65 rfl rfl) dX11_chance_66 w2_228) rfl) (s_iload_n dX11_chance_69 rfl rfl) rfl) (s_iload_n dX11_chance_70 rfl rfl) rfl) dX11_chance_71 w6_77)) rfl) (s_getL ck10 1 (by decide) rfl (s_getR ck11 10 (by decide) rfl (s_aload_n dX11_chance_74 rfl rfl) dX11_chance_75 w2_228) dX11_chance_78 w2_192) rfl) (s_iload_n dX11_chance_81 rfl rfl) rfl) dX11_chance_82 w5_163)) dX11_chance_85) dX11_chance_86))))
noncomputable def DX11_chance : Fr → St → Option (Int32 × St) := M1 (fun f => (sI (sI (sI (sR fr0 0 (gR f 0)) 1 (gI f 1)) 2 (gI f 2)) 3 (gI f 3))) BX11_chance
theorem kX11_chance : SND yX11_chance cX11_chance 4 (some .int) 8 [(0, 2), (1, 0), (2, 0), (3, 0)] cvoI DX11_chance := snd_I (nw := 4) (by decide) rfl rfl (fun _ _ => rfl) sBX11_chance
theorem dX10_wordsLeft_0 : decode cX10_wordsLeft 0 = .ok (.iload_n 1, 1) := by decide +kernel
theorem dX10_wordsLeft_1 : decode cX10_wordsLeft 1 = .ok (.ifCond .lt 21, 3) := by decide +kernel
theorem dX10_wordsLeft_4 : decode cX10_wordsLeft 4 = .ok (.iload_n 1, 1) := by decide +kernel
theorem dX10_wordsLeft_5 : decode cX10_wordsLeft 5 = .ok (.aload_n 0, 1) := by decide +kernel
theorem dX10_wordsLeft_6 : decode cX10_wordsLeft 6 = .ok (.getfield 15, 3) := by decide +kernel
theorem dX10_wordsLeft_9 : decode cX10_wordsLeft 9 = .ok (.arraylength, 1) := by decide +kernel
theorem dX10_wordsLeft_10 : decode cX10_wordsLeft 10 = .ok (.if_icmp .ge 12, 3) := by decide +kernel
theorem dX10_wordsLeft_13 : decode cX10_wordsLeft 13 = .ok (.aload_n 0, 1) := by decide +kernel
theorem dX10_wordsLeft_14 : decode cX10_wordsLeft 14 = .ok (.getfield 15, 3) := by decide +kernel
theorem dX10_wordsLeft_17 : decode cX10_wordsLeft 17 = .ok (.iload_n 1, 1) := by decide +kernel
theorem dX10_wordsLeft_18 : decode cX10_wordsLeft 18 = .ok (.laload, 1) := by decide +kernel
theorem dX10_wordsLeft_19 : decode cX10_wordsLeft 19 = .ok (.goto 4, 3) := by decide +kernel
theorem dX10_wordsLeft_22 : decode cX10_wordsLeft 22 = .ok (.lconst 0, 1) := by decide +kernel
theorem dX10_wordsLeft_23 : decode cX10_wordsLeft 23 = .ok (.lreturn, 1) := by decide +kernel
theorem mokX10_wordsLeft : MOK yX10_wordsLeft cX10_wordsLeft 2 (some .long) 1 := ⟨w6_90, w1_11, ⟨by decide, by decide⟩, by decide +kernel, by decide⟩
abbrev miX10_wordsLeft : MI := (yX10_wordsLeft.cls, cX10_wordsLeft, 2, 1, false)
noncomputable def BX10_wordsLeft : Sm Int64 := (dRet (dT (dAnd (dCZ q_ge (vI 1)) (dCI r_lt (vI 1) (dLen (dGR 10 3 (vR 0))))) (dAL (dGR 10 3 (vR 0)) (vI 1)) (cL 0)))
theorem sBX10_wordsLeft : SS (cvoL, .lreturn) miX10_wordsLeft [] [] [] [(0, 2), (1, 0)] [(0, 2), (1, 0)] 0 [] BX10_wordsLeft := (t_ret (cv := cvL) (fun _ _ => rfl) (s_T (pT := 13) (pF := 22) (p1 := 19) (pe := 23) (c_and (p1 := 4) (pT := 13) (pF := 22) (c_ge_ZF (pF := 22) (s_iload_n dX10_wordsLeft_0 rfl rfl) dX10_wordsLeft_1 rfl) (c_lt_F (pF := 22) (s_iload_n dX10_wordsLeft_4 rfl rfl) (s_len (s_getR ck10 3 (by decide) rfl (s_aload_n dX10_wordsLeft_5 rfl rfl) dX10_wordsLeft_6 w2_194) dX10_wordsLeft_9) dX10_wordsLeft_10 rfl)) (s_dAL (s_getR ck10 3 (by decide) rfl (s_aload_n dX10_wordsLeft_13 rfl rfl) dX10_wordsLeft_14 w2_194) (s_iload_n dX10_wordsLeft_17 rfl rfl) dX10_wordsLeft_18) (s_lconst dX10_wordsLeft_22 rfl) (ld_goto (y := 23) dX10_wordsLeft_19 rfl (ld_in rfl))) dX10_wordsLeft_23)
noncomputable def DX10_wordsLeft : Fr → St → Option (Int64 × St) := M1 (fun f => (sI (sR fr0 0 (gR f 0)) 1 (gI f 1))) BX10_wordsLeft
theorem kX10_wordsLeft : SND yX10_wordsLeft cX10_wordsLeft 2 (some .long) 1 [(0, 2), (1, 0)] cvoL DX10_wordsLeft := snd_L (nw := 2) (by decide) rfl rfl (fun _ _ => rfl) sBX10_wordsLeft
theorem dX11_mean_0 : decode cX11_mean 0 = .ok (.aload_n 0, 1) := by decide +kernel
theorem dX11_mean_1 : decode cX11_mean 1 = .ok (.getfield 26, 3) := by decide +kernel
theorem dX11_mean_4 : decode cX11_mean 4 = .ok (.iload_n 1, 1) := by decide +kernel
theorem dX11_mean_5 : decode cX11_mean 5 = .ok (.invokevirtual 140, 3) := by decide +kernel
theorem dX11_mean_8 : decode cX11_mean 8 = .ok (.ifCond .eq 10, 3) := by decide +kernel
theorem dX11_mean_11 : decode cX11_mean 11 = .ok (.iload_n 2, 1) := by decide +kernel
theorem dX11_mean_12 : decode cX11_mean 12 = .ok (.invokestatic 131, 3) := by decide +kernel
theorem dX11_mean_15 : decode cX11_mean 15 = .ok (.ifCond .ne 7, 3) := by decide +kernel
theorem dX11_mean_18 : decode cX11_mean 18 = .ok (.ldc2_w 380, 3) := by decide +kernel
theorem dX11_mean_21 : decode cX11_mean 21 = .ok (.lreturn, 1) := by decide +kernel
theorem dX11_mean_22 : decode cX11_mean 22 = .ok (.aload_n 0, 1) := by decide +kernel
theorem dX11_mean_23 : decode cX11_mean 23 = .ok (.getfield 26, 3) := by decide +kernel
theorem dX11_mean_26 : decode cX11_mean 26 = .ok (.getfield 200, 3) := by decide +kernel
theorem dX11_mean_29 : decode cX11_mean 29 = .ok (.bipush 8, 2) := by decide +kernel
theorem dX11_mean_31 : decode cX11_mean 31 = .ok (.if_icmp .le 7, 3) := by decide +kernel
theorem dX11_mean_34 : decode cX11_mean 34 = .ok (.ldc2_w 382, 3) := by decide +kernel
theorem dX11_mean_37 : decode cX11_mean 37 = .ok (.lreturn, 1) := by decide +kernel
theorem dX11_mean_38 : decode cX11_mean 38 = .ok (.aload_n 0, 1) := by decide +kernel
theorem dX11_mean_39 : decode cX11_mean 39 = .ok (.getfield 71, 3) := by decide +kernel
theorem dX11_mean_42 : decode cX11_mean 42 = .ok (.aload_n 0, 1) := by decide +kernel
theorem dX11_mean_43 : decode cX11_mean 43 = .ok (.getfield 26, 3) := by decide +kernel
theorem dX11_mean_46 : decode cX11_mean 46 = .ok (.aload_n 0, 1) := by decide +kernel
theorem dX11_mean_47 : decode cX11_mean 47 = .ok (.getfield 51, 3) := by decide +kernel
theorem dX11_mean_50 : decode cX11_mean 50 = .ok (.getfield 332, 3) := by decide +kernel
theorem dX11_mean_53 : decode cX11_mean 53 = .ok (.invokevirtual 369, 3) := by decide +kernel
theorem dX11_mean_56 : decode cX11_mean 56 = .ok (.aload_n 0, 1) := by decide +kernel
theorem dX11_mean_57 : decode cX11_mean 57 = .ok (.getfield 71, 3) := by decide +kernel
theorem dX11_mean_60 : decode cX11_mean 60 = .ok (.iload_n 1, 1) := by decide +kernel
theorem dX11_mean_61 : decode cX11_mean 61 = .ok (.invokevirtual 384, 3) := by decide +kernel
theorem dX11_mean_64 : decode cX11_mean 64 = .ok (.aload_n 0, 1) := by decide +kernel
theorem dX11_mean_65 : decode cX11_mean 65 = .ok (.getfield 71, 3) := by decide +kernel
theorem dX11_mean_68 : decode cX11_mean 68 = .ok (.getfield 376, 3) := by decide +kernel
theorem dX11_mean_71 : decode cX11_mean 71 = .ok (.iload_n 2, 1) := by decide +kernel
theorem dX11_mean_72 : decode cX11_mean 72 = .ok (.invokestatic 298, 3) := by decide +kernel
theorem dX11_mean_75 : decode cX11_mean 75 = .ok (.lreturn, 1) := by decide +kernel
theorem mokX11_mean : MOK yX11_mean cX11_mean 3 (some .long) 2 := ⟨w6_84, w1_1, ⟨by decide, by decide⟩, by decide +kernel, by decide⟩
abbrev miX11_mean : MI := (yX11_mean.cls, cX11_mean, 3, 8, false)
noncomputable def BX11_mean : Sm Int64 := (dSeq (dIf (dOr (dNot (dCZ q_ne (dCallV 5 DX5_isSlate (aI (aR aN 0 (dGR 11 2 (vR 0))) 1 (vI 1))))) (dNot (dCZ q_ne (dCall DX11_isChoice (aI aN 0 (vI 2)))))) (dRet (cL (-2))) dSkip) (dSeq (dIf (dCI r_gt (dGI 5 1 (dGR 11 2 (vR 0))) (cI 8)) (dRet (cL (-3))) dSkip) (dSeq (dDo (dCallV 10 DX10_fill (aR (aR (aR aN 0 (dGR 11 10 (vR 0))) 1 (dGR 11 2 (vR 0))) 2 (dGR 3 1 (dGR 11 7 (vR 0)))))) (dRet (dCall DX11_inLowestTerms (aI (aL (aL aN 0 (dCallV 10 DX10_wordsLeft (aI (aR aN 0 (dGR 11 10 (vR 0))) 1 (vI 1)))) 2 (dGL 10 1 (dGR 11 10 (vR 0)))) 4 (vI 2)))))))
theorem sBX11_mean : SS (cvoL, .lreturn) miX11_mean [] [] [] [(0, 2), (1, 0), (2, 0)] [(0, 2), (1, 0), (2, 0)] 0 [] BX11_mean := (t_sq (p1 := 22) (Γ' := [(0, 2), (1, 0), (2, 0)]) (t_if (pT := 18) (pF := 22) (X := [22]) (XA := []) (XB := [22]) (c_or (p1 := 11) (pT := 18) (pF := 22) (c_not (pT := 18) (pF := 11) (c_ne_ZF (pF := 18) (s_of_xI (x_callV (ts := [(0, 2), (1, 0)]) ck5 rfl kX5_isSlate mokX5_isSlate w4_7 w4_8 rfl rfl rfl rfl (a_I (ts := [(0, 2)]) 1 (a_R (ts := []) 0 a_nil (s_getR ck11 2 (by decide) rfl (s_aload_n dX11_mean_0 rfl rfl) dX11_mean_1 w2_220) rfl) (s_iload_n dX11_mean_4 rfl rfl) rfl) dX11_mean_5 w4_6)) dX11_mean_8 rfl)) (c_not (pT := 18) (pF := 22) (c_ne_ZJ (pT := 22) (s_of_xI (x_call (ts := [(0, 0)]) kX11_isChoice mokX11_isChoice w4_0 rfl rfl rfl (a_I (ts := []) 0 a_nil (s_iload_n dX11_mean_11 rfl rfl) rfl) dX11_mean_12 w3_239)) dX11_mean_15 rfl))) (t_ret (cv := cvL) (fun _ _ => rfl) (s_ldc2 dX11_mean_18 w6_85) dX11_mean_21) (t_skip (ld_in rfl) rfl) lda_nil (lda_cons (ld_in rfl) lda_nil)) (t_sq (p1 := 38) (Γ' := [(0, 2), (1, 0), (2, 0)]) (t_if (pT := 34) (pF := 38) (X := [38]) (XA := []) (XB := [38]) (c_gt_F (pF := 38) (s_getI ck5 1 (by decide) rfl (s_getR ck11 2 (by decide) rfl (s_aload_n dX11_mean_22 rfl rfl) dX11_mean_23 w2_220) dX11_mean_26 w1_139) (s_bipush dX11_mean_29 rfl) dX11_mean_31 rfl) (t_ret (cv := cvL) (fun _ _ => rfl) (s_ldc2 dX11_mean_34 w6_86) dX11_mean_37) (t_skip (ld_in rfl) rfl) lda_nil (lda_cons (ld_in rfl) lda_nil)) (t_sq (p1 := 56) (Γ' := [(0, 2), (1, 0), (2, 0)]) (t_do (x_callV (ts := [(0, 2), (1, 2), (2, 2)]) ck10 rfl kX10_fill mokX10_fill w6_53 w6_54 rfl rfl rfl rfl (a_R (ts := [(0, 2), (1, 2)]) 2 (a_R (ts := [(0, 2)]) 1 (a_R (ts := []) 0 a_nil (s_getR ck11 10 (by decide) rfl (s_aload_n dX11_mean_38 rfl rfl) dX11_mean_39 w2_228) rfl) (s_getR ck11 2 (by decide) rfl (s_aload_n dX11_mean_42 rfl rfl) dX11_mean_43 w2_220) rfl) (s_getR ck3 1 (by decide) rfl (s_getR ck11 7 (by decide) rfl (s_aload_n dX11_mean_46 rfl rfl) dX11_mean_47 w2_225) dX11_mean_50 w2_91) rfl) dX11_mean_53 w6_52) rfl) (t_ret (cv := cvL) (fun _ _ => rfl) (s_of_xL (x_call (ts := [(0, 1), (2, 1), (4, 0)]) kX11_inLowestTerms mokX11_inLowestTerms w5_164 rfl rfl rfl (a_I (ts := [(0, 1), (2, 1)]) 4 (a_L (ts := [(0, 1)]) 2 (a_L (ts := []) 0 a_nil (s_of_xL (x_callV (ts := [(0, 2), (1, 0)]) ck10 rfl kX10_wordsLeft mokX10_wordsLeft w6_88 w6_89 rfl rfl rfl rfl (a_I (ts := [(0, 2)]) 1 (a_R (ts := []) 0 a_nil (s_getR ck11 10 (by decide) rfl (s_aload_n dX11_mean_56 rfl rfl) dX11_mean_57 w2_228) rfl) (s_iload_n dX11_mean_60 rfl rfl) rfl) dX11_mean_61 w6_87)) rfl) (s_getL ck10 1 (by decide) rfl (s_getR ck11 10 (by decide) rfl (s_aload_n dX11_mean_64 rfl rfl) dX11_mean_65 w2_228) dX11_mean_68 w2_192) rfl) (s_iload_n dX11_mean_71 rfl rfl) rfl) dX11_mean_72 w5_163)) dX11_mean_75))))
noncomputable def DX11_mean : Fr → St → Option (Int64 × St) := M1 (fun f => (sI (sI (sR fr0 0 (gR f 0)) 1 (gI f 1)) 2 (gI f 2))) BX11_mean
theorem kX11_mean : SND yX11_mean cX11_mean 3 (some .long) 8 [(0, 2), (1, 0), (2, 0)] cvoL DX11_mean := snd_L (nw := 3) (by decide) rfl rfl (fun _ _ => rfl) sBX11_mean
theorem dX1_addAct_0 : decode cX1_addAct 0 = .ok (.aload_n 0, 1) := by decide +kernel
theorem dX1_addAct_1 : decode cX1_addAct 1 = .ok (.getfield 37, 3) := by decide +kernel
theorem dX1_addAct_4 : decode cX1_addAct 4 = .ok (.bipush 20, 2) := by decide +kernel
theorem dX1_addAct_6 : decode cX1_addAct 6 = .ok (.if_icmp .lt 4, 3) := by decide +kernel
theorem dX1_addAct_9 : decode cX1_addAct 9 = .ok (.return_, 1) := by decide +kernel
theorem dX1_addAct_10 : decode cX1_addAct 10 = .ok (.aload_n 0, 1) := by decide +kernel
theorem dX1_addAct_11 : decode cX1_addAct 11 = .ok (.getfield 24, 3) := by decide +kernel
theorem dX1_addAct_14 : decode cX1_addAct 14 = .ok (.aload_n 0, 1) := by decide +kernel
theorem dX1_addAct_15 : decode cX1_addAct 15 = .ok (.getfield 37, 3) := by decide +kernel
theorem dX1_addAct_18 : decode cX1_addAct 18 = .ok (.iload_n 1, 1) := by decide +kernel
theorem dX1_addAct_19 : decode cX1_addAct 19 = .ok (.invokestatic 46, 3) := by decide +kernel
theorem dX1_addAct_22 : decode cX1_addAct 22 = .ok (.aload_n 0, 1) := by decide +kernel
theorem dX1_addAct_23 : decode cX1_addAct 23 = .ok (.getfield 27, 3) := by decide +kernel
theorem dX1_addAct_26 : decode cX1_addAct 26 = .ok (.aload_n 0, 1) := by decide +kernel
theorem dX1_addAct_27 : decode cX1_addAct 27 = .ok (.getfield 37, 3) := by decide +kernel
theorem dX1_addAct_30 : decode cX1_addAct 30 = .ok (.iload_n 2, 1) := by decide +kernel
theorem dX1_addAct_31 : decode cX1_addAct 31 = .ok (.invokestatic 46, 3) := by decide +kernel
theorem dX1_addAct_34 : decode cX1_addAct 34 = .ok (.aload_n 0, 1) := by decide +kernel
theorem dX1_addAct_35 : decode cX1_addAct 35 = .ok (.dup, 1) := by decide +kernel
theorem dX1_addAct_36 : decode cX1_addAct 36 = .ok (.getfield 37, 3) := by decide +kernel
theorem dX1_addAct_39 : decode cX1_addAct 39 = .ok (.iconst 1, 1) := by decide +kernel
theorem dX1_addAct_40 : decode cX1_addAct 40 = .ok (.iadd, 1) := by decide +kernel
theorem dX1_addAct_41 : decode cX1_addAct 41 = .ok (.putfield 37, 3) := by decide +kernel
theorem dX1_addAct_44 : decode cX1_addAct 44 = .ok (.return_, 1) := by decide +kernel
theorem mokX1_addAct : MOK yX1_addAct cX1_addAct 3 none 2 := ⟨w6_99, w1_5, ⟨by decide, by decide⟩, by decide +kernel, by decide⟩
abbrev miX1_addAct : MI := (yX1_addAct.cls, cX1_addAct, 3, 2, false)
noncomputable def BX1_addAct : Sm Unit := (dSeq (dIf (dCI r_ge (dGI 1 2 (vR 0)) (cI 20)) dRet0 dSkip) (dSeq (dDo (dCall DX11_put (aI (aI (aR aN 0 (dGR 1 7 (vR 0))) 1 (dGI 1 2 (vR 0))) 2 (vI 1)))) (dSeq (dDo (dCall DX11_put (aI (aI (aR aN 0 (dGR 1 8 (vR 0))) 1 (dGI 1 2 (vR 0))) 2 (vI 2)))) (dSeq (dUF 1 2 o_iadd (vR 0) (cI 1)) dRet0))))
theorem sBX1_addAct : SS (cvoV, .return_) miX1_addAct [] [] [] [(0, 2), (1, 0), (2, 0)] [(0, 2), (1, 0), (2, 0)] 0 [] BX1_addAct := (t_sq (p1 := 10) (Γ' := [(0, 2), (1, 0), (2, 0)]) (t_if (pT := 9) (pF := 10) (X := [10]) (XA := []) (XB := [10]) (c_ge_F (pF := 10) (s_getI ck1 2 (by decide) rfl (s_aload_n dX1_addAct_0 rfl rfl) dX1_addAct_1 w1_95) (s_bipush dX1_addAct_4 rfl) dX1_addAct_6 rfl) (t_ret0 (fun _ _ => rfl) dX1_addAct_9) (t_skip (ld_in rfl) rfl) lda_nil (lda_cons (ld_in rfl) lda_nil)) (t_sq (p1 := 22) (Γ' := [(0, 2), (1, 0), (2, 0)]) (t_do (x_callN (ts := [(0, 2), (1, 0), (2, 0)]) kX11_put mokX11_put w3_161 rfl rfl rfl (a_I (ts := [(0, 2), (1, 0)]) 2 (a_I (ts := [(0, 2)]) 1 (a_R (ts := []) 0 a_nil (s_getR ck1 7 (by decide) rfl (s_aload_n dX1_addAct_10 rfl rfl) dX1_addAct_11 w1_108) rfl) (s_getI ck1 2 (by decide) rfl (s_aload_n dX1_addAct_14 rfl rfl) dX1_addAct_15 w1_95) rfl) (s_iload_n dX1_addAct_18 rfl rfl) rfl) dX1_addAct_19 nb12) rfl) (t_sq (p1 := 34) (Γ' := [(0, 2), (1, 0), (2, 0)]) (t_do (x_callN (ts := [(0, 2), (1, 0), (2, 0)]) kX11_put mokX11_put w3_161 rfl rfl rfl (a_I (ts := [(0, 2), (1, 0)]) 2 (a_I (ts := [(0, 2)]) 1 (a_R (ts := []) 0 a_nil (s_getR ck1 8 (by decide) rfl (s_aload_n dX1_addAct_22 rfl rfl) dX1_addAct_23 w1_109) rfl) (s_getI ck1 2 (by decide) rfl (s_aload_n dX1_addAct_26 rfl rfl) dX1_addAct_27 w1_95) rfl) (s_iload_n dX1_addAct_30 rfl rfl) rfl) dX1_addAct_31 nb12) rfl) (t_sq (p1 := 44) (Γ' := [(0, 2), (1, 0), (2, 0)]) (t_UF ck1 2 (by decide) rfl (Or.inl rfl) (s_aload_n dX1_addAct_34 rfl rfl) dX1_addAct_35 dX1_addAct_36 w1_95 (s_iconst dX1_addAct_39 rfl) (fun _ _ _ _ => rulI fun a b K => lv_iadd a b dX1_addAct_40 K) dX1_addAct_41 w1_95 rfl) (t_ret0 (fun _ _ => rfl) dX1_addAct_44)))))
noncomputable def DX1_addAct : Fr → St → Option (Unit × St) := M1 (fun f => (sI (sI (sR fr0 0 (gR f 0)) 1 (gI f 1)) 2 (gI f 2))) BX1_addAct
theorem kX1_addAct : SND yX1_addAct cX1_addAct 3 none 2 [(0, 2), (1, 0), (2, 0)] cvoV DX1_addAct := snd_V (nw := 3) (by decide) (fun z => by cases z) rfl rfl (fun _ _ => rfl) sBX1_addAct
