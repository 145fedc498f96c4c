theorem dX12_isOver_0 : decode cX12_isOver 0 = .ok (.aload_n 0, 1) := by decide +kernel
theorem dX12_isOver_1 : decode cX12_isOver 1 = .ok (.iconst 0, 1) := by decide +kernel
theorem dX12_isOver_2 : decode cX12_isOver 2 = .ok (.putfield 139, 3) := by decide +kernel
theorem dX12_isOver_5 : decode cX12_isOver 5 = .ok (.aload_n 0, 1) := by decide +kernel
theorem dX12_isOver_6 : decode cX12_isOver 6 = .ok (.aload_n 0, 1) := by decide +kernel
theorem dX12_isOver_7 : decode cX12_isOver 7 = .ok (.getfield 174, 3) := by decide +kernel
theorem dX12_isOver_10 : decode cX12_isOver 10 = .ok (.putfield 201, 3) := by decide +kernel
theorem dX12_isOver_13 : decode cX12_isOver 13 = .ok (.aload_n 0, 1) := by decide +kernel
theorem dX12_isOver_14 : decode cX12_isOver 14 = .ok (.aload_n 0, 1) := by decide +kernel
theorem dX12_isOver_15 : decode cX12_isOver 15 = .ok (.getfield 174, 3) := by decide +kernel
theorem dX12_isOver_18 : decode cX12_isOver 18 = .ok (.ifCond .ne 7, 3) := by decide +kernel
theorem dX12_isOver_21 : decode cX12_isOver 21 = .ok (.iconst (-1), 1) := by decide +kernel
theorem dX12_isOver_22 : decode cX12_isOver 22 = .ok (.goto 7, 3) := by decide +kernel
theorem dX12_isOver_25 : decode cX12_isOver 25 = .ok (.aload_n 0, 1) := by decide +kernel
theorem dX12_isOver_26 : decode cX12_isOver 26 = .ok (.getfield 177, 3) := by decide +kernel
theorem dX12_isOver_29 : decode cX12_isOver 29 = .ok (.putfield 27, 3) := by decide +kernel
theorem dX12_isOver_32 : decode cX12_isOver 32 = .ok (.return_, 1) := by decide +kernel
theorem mokX12_isOver : MOK yX12_isOver cX12_isOver 1 none 0 := ⟨w8_44, w1_13, ⟨by decide, by decide⟩, by decide +kernel, by decide⟩
abbrev miX12_isOver : MI := (yX12_isOver.cls, cX12_isOver, 1, 1, false)
noncomputable def BX12_isOver : Sm Unit := (dSeq (dP (fI 12 6) (vR 0) (cI 0)) (dSeq (dP (fI 12 14) (vR 0) (dGI 12 12 (vR 0))) (dSeq (dP (fI 12 15) (vR 0) (dT (dCZ q_eq (dGI 12 12 (vR 0))) (cI (-1)) (dGI 12 13 (vR 0)))) dRet0)))
theorem sBX12_isOver : SS (cvoV, .return_) miX12_isOver [] [] [] [(0, 2)] [(0, 2)] 0 [] BX12_isOver := (t_sq (p1 := 5) (Γ' := [(0, 2)]) (t_pI ck12 6 (by decide) rfl (Or.inl rfl) (s_aload_n dX12_isOver_0 rfl rfl) (s_iconst dX12_isOver_1 rfl) dX12_isOver_2 w6_211 rfl) (t_sq (p1 := 13) (Γ' := [(0, 2)]) (t_pI ck12 14 (by decide) rfl (Or.inl rfl) (s_aload_n dX12_isOver_5 rfl rfl) (s_getI ck12 12 (by decide) rfl (s_aload_n dX12_isOver_6 rfl rfl) dX12_isOver_7 w6_217) dX12_isOver_10 w6_219 rfl) (t_sq (p1 := 32) (Γ' := [(0, 2)]) (t_pI ck12 15 (by decide) rfl (Or.inl rfl) (s_aload_n dX12_isOver_13 rfl rfl) (s_T (pT := 21) (pF := 25) (p1 := 22) (pe := 29) (c_eq_ZF (pF := 25) (s_getI ck12 12 (by decide) rfl (s_aload_n dX12_isOver_14 rfl rfl) dX12_isOver_15 w6_217) dX12_isOver_18 rfl) (s_iconst dX12_isOver_21 rfl) (s_getI ck12 13 (by decide) rfl (s_aload_n dX12_isOver_25 rfl rfl) dX12_isOver_26 w6_218) (ld_goto (y := 29) dX12_isOver_22 rfl (ld_in rfl))) dX12_isOver_29 w6_220 rfl) (t_ret0 (fun _ _ => rfl) dX12_isOver_32))))
noncomputable def DX12_isOver : Fr → St → Option (Unit × St) := M1 (fun f => (sR fr0 0 (gR f 0))) BX12_isOver
theorem kX12_isOver : SND yX12_isOver cX12_isOver 1 none 1 [(0, 2)] cvoV DX12_isOver := snd_V (nw := 1) (by decide) (fun z => by cases z) rfl rfl (fun _ _ => rfl) sBX12_isOver
theorem dX12_fault_0 : decode cX12_fault 0 = .ok (.aload_n 0, 1) := by decide +kernel
theorem dX12_fault_1 : decode cX12_fault 1 = .ok (.iconst 0, 1) := by decide +kernel
theorem dX12_fault_2 : decode cX12_fault 2 = .ok (.putfield 122, 3) := by decide +kernel
theorem dX12_fault_5 : decode cX12_fault 5 = .ok (.iload_n 1, 1) := by decide +kernel
theorem dX12_fault_6 : decode cX12_fault 6 = .ok (.ifCond .ne 10, 3) := by decide +kernel
theorem dX12_fault_9 : decode cX12_fault 9 = .ok (.aload_n 0, 1) := by decide +kernel
theorem dX12_fault_10 : decode cX12_fault 10 = .ok (.getfield 201, 3) := by decide +kernel
theorem dX12_fault_13 : decode cX12_fault 13 = .ok (.goto 16, 3) := by decide +kernel
theorem dX12_fault_16 : decode cX12_fault 16 = .ok (.iload_n 1, 1) := by decide +kernel
theorem dX12_fault_17 : decode cX12_fault 17 = .ok (.iconst 1, 1) := by decide +kernel
theorem dX12_fault_18 : decode cX12_fault 18 = .ok (.if_icmp .ne 10, 3) := by decide +kernel
theorem dX12_fault_21 : decode cX12_fault 21 = .ok (.aload_n 0, 1) := by decide +kernel
theorem dX12_fault_22 : decode cX12_fault 22 = .ok (.getfield 27, 3) := by decide +kernel
theorem dX12_fault_25 : decode cX12_fault 25 = .ok (.goto 4, 3) := by decide +kernel
theorem dX12_fault_28 : decode cX12_fault 28 = .ok (.iconst (-1), 1) := by decide +kernel
theorem dX12_fault_29 : decode cX12_fault 29 = .ok (.ireturn, 1) := by decide +kernel
theorem mokX12_fault : MOK yX12_fault cX12_fault 2 (some .int) 1 := ⟨w7_169, w1_13, ⟨by decide, by decide⟩, by decide +kernel, by decide⟩
abbrev miX12_fault : MI := (yX12_fault.cls, cX12_fault, 2, 1, false)
noncomputable def BX12_fault : Sm Int32 := (dSeq (dP (fI 12 0) (vR 0) (cI 0)) (dRet (dT (dCZ q_eq (vI 1)) (dGI 12 14 (vR 0)) (dT (dCI r_eq (vI 1) (cI 1)) (dGI 12 15 (vR 0)) (cI (-1))))))
theorem sBX12_fault : SS (cvoI, .ireturn) miX12_fault [] [] [] [(0, 2), (1, 0)] [(0, 2), (1, 0)] 0 [] BX12_fault := (t_sq (p1 := 5) (Γ' := [(0, 2), (1, 0)]) (t_pI ck12 0 (by decide) rfl (Or.inl rfl) (s_aload_n dX12_fault_0 rfl rfl) (s_iconst dX12_fault_1 rfl) dX12_fault_2 w6_205 rfl) (t_ret (cv := cvI) (fun _ _ => rfl) (s_T (pT := 9) (pF := 16) (p1 := 13) (pe := 29) (c_eq_ZF (pF := 16) (s_iload_n dX12_fault_5 rfl rfl) dX12_fault_6 rfl) (s_getI ck12 14 (by decide) rfl (s_aload_n dX12_fault_9 rfl rfl) dX12_fault_10 w6_219) (s_T (pT := 21) (pF := 28) (p1 := 25) (pe := 29) (c_eq_F (pF := 28) (s_iload_n dX12_fault_16 rfl rfl) (s_iconst dX12_fault_17 rfl) dX12_fault_18 rfl) (s_getI ck12 15 (by decide) rfl (s_aload_n dX12_fault_21 rfl rfl) dX12_fault_22 w6_220) (s_iconst dX12_fault_28 rfl) (ld_goto (y := 29) dX12_fault_25 rfl (ld_in rfl))) (ld_goto (y := 29) dX12_fault_13 rfl (ld_in rfl))) dX12_fault_29))
noncomputable def DX12_fault : Fr → St → Option (Int32 × St) := M1 (fun f => (sI (sR fr0 0 (gR f 0)) 1 (gI f 1))) BX12_fault
theorem kX12_fault : SND yX12_fault cX12_fault 2 (some .int) 1 [(0, 2), (1, 0)] cvoI DX12_fault := snd_I (nw := 2) (by decide) rfl rfl (fun _ _ => rfl) sBX12_fault
theorem dX12_hasRead_0 : decode cX12_hasRead 0 = .ok (.aload_n 0, 1) := by decide +kernel
theorem dX12_hasRead_1 : decode cX12_hasRead 1 = .ok (.getfield 34, 3) := by decide +kernel
theorem dX12_hasRead_4 : decode cX12_hasRead 4 = .ok (.bipush 36, 2) := by decide +kernel
theorem dX12_hasRead_6 : decode cX12_hasRead 6 = .ok (.iload_n 1, 1) := by decide +kernel
theorem dX12_hasRead_7 : decode cX12_hasRead 7 = .ok (.iadd, 1) := by decide +kernel
theorem dX12_hasRead_8 : decode cX12_hasRead 8 = .ok (.iaload, 1) := by decide +kernel
theorem dX12_hasRead_9 : decode cX12_hasRead 9 = .ok (.ireturn, 1) := by decide +kernel
theorem mokX12_hasRead : MOK yX12_hasRead cX12_hasRead 2 (some .int) 1 := ⟨w8_3, w1_13, ⟨by decide, by decide⟩, by decide +kernel, by decide⟩
abbrev miX12_hasRead : MI := (yX12_hasRead.cls, cX12_hasRead, 2, 1, false)
noncomputable def BX12_hasRead : Sm Int32 := (dRet (dAI (dGR 12 17 (vR 0)) (d2 o_iadd (cI 36) (vI 1))))
theorem sBX12_hasRead : SS (cvoI, .ireturn) miX12_hasRead [] [] [] [(0, 2), (1, 0)] [(0, 2), (1, 0)] 0 [] BX12_hasRead := (t_ret (cv := cvI) (fun _ _ => rfl) (s_dAI (s_getR ck12 17 (by decide) rfl (s_aload_n dX12_hasRead_0 rfl rfl) dX12_hasRead_1 w6_222) (s_iadd (s_bipush dX12_hasRead_4 rfl) (s_iload_n dX12_hasRead_6 rfl rfl) dX12_hasRead_7) dX12_hasRead_8) dX12_hasRead_9)
noncomputable def DX12_hasRead : Fr → St → Option (Int32 × St) := M1 (fun f => (sI (sR fr0 0 (gR f 0)) 1 (gI f 1))) BX12_hasRead
theorem kX12_hasRead : SND yX12_hasRead cX12_hasRead 2 (some .int) 1 [(0, 2), (1, 0)] cvoI DX12_hasRead := snd_I (nw := 2) (by decide) rfl rfl (fun _ _ => rfl) sBX12_hasRead
theorem dX12_tellsOf_0 : decode cX12_tellsOf 0 = .ok (.aload_n 0, 1) := by decide +kernel
theorem dX12_tellsOf_1 : decode cX12_tellsOf 1 = .ok (.getfield 34, 3) := by decide +kernel
theorem dX12_tellsOf_4 : decode cX12_tellsOf 4 = .ok (.bipush 36, 2) := by decide +kernel
theorem dX12_tellsOf_6 : decode cX12_tellsOf 6 = .ok (.iload_n 1, 1) := by decide +kernel
theorem dX12_tellsOf_7 : decode cX12_tellsOf 7 = .ok (.iadd, 1) := by decide +kernel
theorem dX12_tellsOf_8 : decode cX12_tellsOf 8 = .ok (.iload_n 2, 1) := by decide +kernel
theorem dX12_tellsOf_9 : decode cX12_tellsOf 9 = .ok (.iastore, 1) := by decide +kernel
theorem dX12_tellsOf_10 : decode cX12_tellsOf 10 = .ok (.return_, 1) := by decide +kernel
theorem mokX12_tellsOf : MOK yX12_tellsOf cX12_tellsOf 3 none 2 := ⟨w7_181, w1_13, ⟨by decide, by decide⟩, by decide +kernel, by decide⟩
abbrev miX12_tellsOf : MI := (yX12_tellsOf.cls, cX12_tellsOf, 3, 1, false)
noncomputable def BX12_tellsOf : Sm Unit := (dSeq (d3 (stI 13 idI) (dGR 12 17 (vR 0)) (d2 o_iadd (cI 36) (vI 1)) (vI 2)) dRet0)
theorem sBX12_tellsOf : SS (cvoV, .return_) miX12_tellsOf [] [] [] [(0, 2), (1, 0), (2, 0)] [(0, 2), (1, 0), (2, 0)] 0 [] BX12_tellsOf := (t_sq (p1 := 10) (Γ' := [(0, 2), (1, 0), (2, 0)]) (t_stI (s_getR ck12 17 (by decide) rfl (s_aload_n dX12_tellsOf_0 rfl rfl) dX12_tellsOf_1 w6_222) (s_iadd (s_bipush dX12_tellsOf_4 rfl) (s_iload_n dX12_tellsOf_6 rfl rfl) dX12_tellsOf_7) (s_iload_n dX12_tellsOf_8 rfl rfl) dX12_tellsOf_9 rfl) (t_ret0 (fun _ _ => rfl) dX12_tellsOf_10))
noncomputable def DX12_tellsOf : Fr → St → Option (Unit × St) := M1 (fun f => (sI (sI (sR fr0 0 (gR f 0)) 1 (gI f 1)) 2 (gI f 2))) BX12_tellsOf
theorem kX12_tellsOf : SND yX12_tellsOf cX12_tellsOf 3 none 1 [(0, 2), (1, 0), (2, 0)] cvoV DX12_tellsOf := snd_V (nw := 3) (by decide) (fun z => by cases z) rfl rfl (fun _ _ => rfl) sBX12_tellsOf
theorem dX12_houseHere_0 : decode cX12_houseHere 0 = .ok (.aload_n 0, 1) := by decide +kernel
theorem dX12_houseHere_1 : decode cX12_houseHere 1 = .ok (.iconst 0, 1) := by decide +kernel
theorem dX12_houseHere_2 : decode cX12_houseHere 2 = .ok (.aload_n 0, 1) := by decide +kernel
theorem dX12_houseHere_3 : decode cX12_houseHere 3 = .ok (.iconst 3, 1) := by decide +kernel
theorem dX12_houseHere_4 : decode cX12_houseHere 4 = .ok (.invokevirtual 204, 3) := by decide +kernel
theorem dX12_houseHere_7 : decode cX12_houseHere 7 = .ok (.iconst 1, 1) := by decide +kernel
theorem dX12_houseHere_8 : decode cX12_houseHere 8 = .ok (.isub, 1) := by decide +kernel
theorem dX12_houseHere_9 : decode cX12_houseHere 9 = .ok (.invokevirtual 197, 3) := by decide +kernel
theorem dX12_houseHere_12 : decode cX12_houseHere 12 = .ok (.ireturn, 1) := by decide +kernel
theorem mokX12_houseHere : MOK yX12_houseHere cX12_houseHere 1 (some .int) 0 := ⟨w8_13, w1_13, ⟨by decide, by decide⟩, by decide +kernel, by decide⟩
abbrev miX12_houseHere : MI := (yX12_houseHere.cls, cX12_houseHere, 1, 4, false)
noncomputable def BX12_houseHere : Sm Int32 := (dRet (dCallV 12 DX12_number (aI (aI (aR aN 0 (vR 0)) 1 (cI 0)) 2 (d2 o_isub (dCallV 12 DX12_hasRead (aI (aR aN 0 (vR 0)) 1 (cI 3))) (cI 1)))))
theorem sBX12_houseHere : SS (cvoI, .ireturn) miX12_houseHere [] [] [] [(0, 2)] [(0, 2)] 0 [] BX12_houseHere := (t_ret (cv := cvI) (fun _ _ => rfl) (s_of_xI (x_callV (ts := [(0, 2), (1, 0), (2, 0)]) ck12 rfl kX12_number mokX12_number w7_227 ps4_3 rfl rfl rfl rfl (a_I (ts := [(0, 2), (1, 0)]) 2 (a_I (ts := [(0, 2)]) 1 (a_R (ts := []) 0 a_nil (s_aload_n dX12_houseHere_0 rfl rfl) rfl) (s_iconst dX12_houseHere_1 rfl) rfl) (s_isub (s_of_xI (x_callV (ts := [(0, 2), (1, 0)]) ck12 rfl kX12_hasRead mokX12_hasRead w8_2 ps4_6 rfl rfl rfl rfl (a_I (ts := [(0, 2)]) 1 (a_R (ts := []) 0 a_nil (s_aload_n dX12_houseHere_2 rfl rfl) rfl) (s_iconst dX12_houseHere_3 rfl) rfl) dX12_houseHere_4 w8_0)) (s_iconst dX12_houseHere_7 rfl) dX12_houseHere_8) rfl) dX12_houseHere_9 w7_225)) dX12_houseHere_12)
noncomputable def DX12_houseHere : Fr → St → Option (Int32 × St) := M1 (fun f => (sR fr0 0 (gR f 0))) BX12_houseHere
theorem kX12_houseHere : SND yX12_houseHere cX12_houseHere 1 (some .int) 4 [(0, 2)] cvoI DX12_houseHere := snd_I (nw := 1) (by decide) rfl rfl (fun _ _ => rfl) sBX12_houseHere
theorem dX12_houseHere__0 : decode cX12_houseHere_ 0 = .ok (.aload_n 0, 1) := by decide +kernel
theorem dX12_houseHere__1 : decode cX12_houseHere_ 1 = .ok (.lload_n 1, 1) := by decide +kernel
theorem dX12_houseHere__2 : decode cX12_houseHere_ 2 = .ok (.iconst 0, 1) := by decide +kernel
theorem dX12_houseHere__3 : decode cX12_houseHere_ 3 = .ok (.aload_n 0, 1) := by decide +kernel
theorem dX12_houseHere__4 : decode cX12_houseHere_ 4 = .ok (.iconst 3, 1) := by decide +kernel
theorem dX12_houseHere__5 : decode cX12_houseHere_ 5 = .ok (.invokevirtual 204, 3) := by decide +kernel
theorem dX12_houseHere__8 : decode cX12_houseHere_ 8 = .ok (.iconst 1, 1) := by decide +kernel
theorem dX12_houseHere__9 : decode cX12_houseHere_ 9 = .ok (.isub, 1) := by decide +kernel
theorem dX12_houseHere__10 : decode cX12_houseHere_ 10 = .ok (.invokevirtual 208, 3) := by decide +kernel
theorem dX12_houseHere__13 : decode cX12_houseHere_ 13 = .ok (.ireturn, 1) := by decide +kernel
theorem mokX12_houseHere_ : MOK yX12_houseHere_ cX12_houseHere_ 3 (some .int) 1 := ⟨w8_23, w1_13, ⟨by decide, by decide⟩, by decide +kernel, by decide⟩
abbrev miX12_houseHere_ : MI := (yX12_houseHere_.cls, cX12_houseHere_, 3, 6, false)
noncomputable def BX12_houseHere_ : Sm Int32 := (dRet (dCallV 12 DX12_number_ (aI (aI (aL (aR aN 0 (vR 0)) 1 (vL 1)) 3 (cI 0)) 4 (d2 o_isub (dCallV 12 DX12_hasRead (aI (aR aN 0 (vR 0)) 1 (cI 3))) (cI 1)))))
theorem sBX12_houseHere_ : SS (cvoI, .ireturn) miX12_houseHere_ [] [] [] [(0, 2), (1, 1)] [(0, 2), (1, 1)] 0 [] BX12_houseHere_ := (t_ret (cv := cvI) (fun _ _ => rfl) (s_of_xI (x_callV (ts := [(0, 2), (1, 1), (3, 0), (4, 0)]) ck12 rfl kX12_number_ mokX12_number_ w7_223 ps4_2 rfl rfl rfl rfl (a_I (ts := [(0, 2), (1, 1), (3, 0)]) 4 (a_I (ts := [(0, 2), (1, 1)]) 3 (a_L (ts := [(0, 2)]) 1 (a_R (ts := []) 0 a_nil (s_aload_n dX12_houseHere__0 rfl rfl) rfl) (s_lload_n dX12_houseHere__1 rfl rfl) rfl) (s_iconst dX12_houseHere__2 rfl) rfl) (s_isub (s_of_xI (x_callV (ts := [(0, 2), (1, 0)]) ck12 rfl kX12_hasRead mokX12_hasRead w8_2 ps4_6 rfl rfl rfl rfl (a_I (ts := [(0, 2)]) 1 (a_R (ts := []) 0 a_nil (s_aload_n dX12_houseHere__3 rfl rfl) rfl) (s_iconst dX12_houseHere__4 rfl) rfl) dX12_houseHere__5 w8_0)) (s_iconst dX12_houseHere__8 rfl) dX12_houseHere__9) rfl) dX12_houseHere__10 w7_221)) dX12_houseHere__13)
noncomputable def DX12_houseHere_ : Fr → St → Option (Int32 × St) := M1 (fun f => (sL (sR fr0 0 (gR f 0)) 1 (gL f 1))) BX12_houseHere_
theorem kX12_houseHere_ : SND yX12_houseHere_ cX12_houseHere_ 3 (some .int) 6 [(0, 2), (1, 1)] cvoI DX12_houseHere_ := snd_I (nw := 3) (by decide) rfl rfl (fun _ _ => rfl) sBX12_houseHere_
theorem dX12_wayLine_0 : decode cX12_wayLine 0 = .ok (.iconst 2, 1) := by decide +kernel
theorem dX12_wayLine_1 : decode cX12_wayLine 1 = .ok (.bipush 48, 2) := by decide +kernel
theorem dX12_wayLine_3 : decode cX12_wayLine 3 = .ok (.aload_n 0, 1) := by decide +kernel
theorem dX12_wayLine_4 : decode cX12_wayLine 4 = .ok (.iconst 4, 1) := by decide +kernel
theorem dX12_wayLine_5 : decode cX12_wayLine 5 = .ok (.invokevirtual 204, 3) := by decide +kernel
theorem dX12_wayLine_8 : decode cX12_wayLine 8 = .ok (.iadd, 1) := by decide +kernel
theorem dX12_wayLine_9 : decode cX12_wayLine 9 = .ok (.imul, 1) := by decide +kernel
theorem dX12_wayLine_10 : decode cX12_wayLine 10 = .ok (.istore_n 1, 1) := by decide +kernel
theorem dX12_wayLine_11 : decode cX12_wayLine 11 = .ok (.aload_n 0, 1) := by decide +kernel
theorem dX12_wayLine_12 : decode cX12_wayLine 12 = .ok (.getfield 40, 3) := by decide +kernel
theorem dX12_wayLine_15 : decode cX12_wayLine 15 = .ok (.iload_n 1, 1) := by decide +kernel
theorem dX12_wayLine_16 : decode cX12_wayLine 16 = .ok (.aload_n 0, 1) := by decide +kernel
theorem dX12_wayLine_17 : decode cX12_wayLine 17 = .ok (.invokevirtual 211, 3) := by decide +kernel
theorem dX12_wayLine_20 : decode cX12_wayLine 20 = .ok (.iastore, 1) := by decide +kernel
theorem dX12_wayLine_21 : decode cX12_wayLine 21 = .ok (.aload_n 0, 1) := by decide +kernel
theorem dX12_wayLine_22 : decode cX12_wayLine 22 = .ok (.getfield 174, 3) := by decide +kernel
theorem dX12_wayLine_25 : decode cX12_wayLine 25 = .ok (.ifCond .ne 29, 3) := by decide +kernel
theorem dX12_wayLine_28 : decode cX12_wayLine 28 = .ok (.aload_n 0, 1) := by decide +kernel
theorem dX12_wayLine_29 : decode cX12_wayLine 29 = .ok (.getfield 163, 3) := by decide +kernel
theorem dX12_wayLine_32 : decode cX12_wayLine 32 = .ok (.iconst 2, 1) := by decide +kernel
theorem dX12_wayLine_33 : decode cX12_wayLine 33 = .ok (.if_icmp .ne 21, 3) := by decide +kernel
theorem dX12_wayLine_36 : decode cX12_wayLine 36 = .ok (.aload_n 0, 1) := by decide +kernel
theorem dX12_wayLine_37 : decode cX12_wayLine 37 = .ok (.getfield 156, 3) := by decide +kernel
theorem dX12_wayLine_40 : decode cX12_wayLine 40 = .ok (.aload_n 0, 1) := by decide +kernel
theorem dX12_wayLine_41 : decode cX12_wayLine 41 = .ok (.getfield 40, 3) := by decide +kernel
theorem dX12_wayLine_44 : decode cX12_wayLine 44 = .ok (.iload_n 1, 1) := by decide +kernel
theorem dX12_wayLine_45 : decode cX12_wayLine 45 = .ok (.iaload, 1) := by decide +kernel
theorem dX12_wayLine_46 : decode cX12_wayLine 46 = .ok (.if_icmp .ne 8, 3) := by decide +kernel
theorem dX12_wayLine_49 : decode cX12_wayLine 49 = .ok (.aload_n 0, 1) := by decide +kernel
theorem dX12_wayLine_50 : decode cX12_wayLine 50 = .ok (.iconst 2, 1) := by decide +kernel
theorem dX12_wayLine_51 : decode cX12_wayLine 51 = .ok (.invokevirtual 190, 3) := by decide +kernel
theorem dX12_wayLine_54 : decode cX12_wayLine 54 = .ok (.aload_n 0, 1) := by decide +kernel
theorem dX12_wayLine_55 : decode cX12_wayLine 55 = .ok (.getfield 40, 3) := by decide +kernel
theorem dX12_wayLine_58 : decode cX12_wayLine 58 = .ok (.iload_n 1, 1) := by decide +kernel
theorem dX12_wayLine_59 : decode cX12_wayLine 59 = .ok (.iconst 1, 1) := by decide +kernel
theorem dX12_wayLine_60 : decode cX12_wayLine 60 = .ok (.iadd, 1) := by decide +kernel
theorem dX12_wayLine_61 : decode cX12_wayLine 61 = .ok (.aload_n 0, 1) := by decide +kernel
theorem dX12_wayLine_62 : decode cX12_wayLine 62 = .ok (.invokevirtual 211, 3) := by decide +kernel
theorem dX12_wayLine_65 : decode cX12_wayLine 65 = .ok (.iastore, 1) := by decide +kernel
theorem dX12_wayLine_66 : decode cX12_wayLine 66 = .ok (.aload_n 0, 1) := by decide +kernel
theorem dX12_wayLine_67 : decode cX12_wayLine 67 = .ok (.iconst 4, 1) := by decide +kernel
theorem dX12_wayLine_68 : decode cX12_wayLine 68 = .ok (.aload_n 0, 1) := by decide +kernel
theorem dX12_wayLine_69 : decode cX12_wayLine 69 = .ok (.iconst 4, 1) := by decide +kernel
theorem dX12_wayLine_70 : decode cX12_wayLine 70 = .ok (.invokevirtual 204, 3) := by decide +kernel
theorem dX12_wayLine_73 : decode cX12_wayLine 73 = .ok (.iconst 1, 1) := by decide +kernel
theorem dX12_wayLine_74 : decode cX12_wayLine 74 = .ok (.iadd, 1) := by decide +kernel
theorem dX12_wayLine_75 : decode cX12_wayLine 75 = .ok (.invokevirtual 215, 3) := by decide +kernel
theorem dX12_wayLine_78 : decode cX12_wayLine 78 = .ok (.return_, 1) := by decide +kernel
theorem mokX12_wayLine : MOK yX12_wayLine cX12_wayLine 2 none 0 := ⟨w8_9, w1_13, ⟨by decide, by decide⟩, by decide +kernel, by decide⟩
abbrev miX12_wayLine : MI := (yX12_wayLine.cls, cX12_wayLine, 2, 5, false)
noncomputable def BX12_wayLine : Sm Unit := (dSeq (dSetI 1 (d2 o_imul (cI 2) (d2 o_iadd (cI 48) (dCallV 12 DX12_hasRead (aI (aR aN 0 (vR 0)) 1 (cI 4)))))) (dSeq (d3 (stI 13 idI) (dGR 12 19 (vR 0)) (vI 1) (dCallV 12 DX12_houseHere (aR aN 0 (vR 0)))) (dSeq (dIf (dAnd (dAnd (dCZ q_eq (dGI 12 12 (vR 0))) (dCI r_eq (dGI 12 8 (vR 0)) (cI 2))) (dCI r_eq (dGI 12 10 (vR 0)) (dAI (dGR 12 19 (vR 0)) (vI 1)))) (dDo (dCallV 12 DX12_fails (aI (aR aN 0 (vR 0)) 1 (cI 2)))) dSkip) (dSeq (d3 (stI 13 idI) (dGR 12 19 (vR 0)) (d2 o_iadd (vI 1) (cI 1)) (dCallV 12 DX12_houseHere (aR aN 0 (vR 0)))) (dSeq (dDo (dCallV 12 DX12_tellsOf (aI (aI (aR aN 0 (vR 0)) 1 (cI 4)) 2 (d2 o_iadd (dCallV 12 DX12_hasRead (aI (aR aN 0 (vR 0)) 1 (cI 4))) (cI 1))))) dRet0)))))
theorem sBX12_wayLine : SS (cvoV, .return_) miX12_wayLine [] [] [] [(0, 2)] [(0, 2)] 0 [] BX12_wayLine := (t_sq (p1 := 11) (Γ' := [(0, 2), (1, 0)]) (t_istore_n (s_imul (s_iconst dX12_wayLine_0 rfl) (s_iadd (s_bipush dX12_wayLine_1 rfl) (s_of_xI (x_callV (ts := [(0, 2), (1, 0)]) ck12 rfl kX12_hasRead mokX12_hasRead w8_2 ps4_6 rfl rfl rfl rfl (a_I (ts := [(0, 2)]) 1 (a_R (ts := []) 0 a_nil (s_aload_n dX12_wayLine_3 rfl rfl) rfl) (s_iconst dX12_wayLine_4 rfl) rfl) dX12_wayLine_5 w8_0)) dX12_wayLine_8) dX12_wayLine_9) dX12_wayLine_10 rfl rfl rfl) (t_sq (p1 := 21) (Γ' := [(0, 2), (1, 0)]) (t_stI (s_getR ck12 19 (by decide) rfl (s_aload_n dX12_wayLine_11 rfl rfl) dX12_wayLine_12 w6_224) (s_iload_n dX12_wayLine_15 rfl rfl) (s_of_xI (x_callV (ts := [(0, 2)]) ck12 rfl kX12_houseHere mokX12_houseHere w8_12 ps4_8 rfl rfl rfl rfl (a_R (ts := []) 0 a_nil (s_aload_n dX12_wayLine_16 rfl rfl) rfl) dX12_wayLine_17 w8_10)) dX12_wayLine_20 rfl) (t_sq (p1 := 54) (Γ' := [(0, 2), (1, 0)]) (t_if (pT := 49) (pF := 54) (X := [54]) (XA := [54]) (XB := [54]) (c_and (p1 := 36) (pT := 49) (pF := 54) (c_and (p1 := 28) (pT := 36) (pF := 54) (c_eq_ZF (pF := 54) (s_getI ck12 12 (by decide) rfl (s_aload_n dX12_wayLine_21 rfl rfl) dX12_wayLine_22 w6_217) dX12_wayLine_25 rfl) (c_eq_F (pF := 54) (s_getI ck12 8 (by decide) rfl (s_aload_n dX12_wayLine_28 rfl rfl) dX12_wayLine_29 w6_213) (s_iconst dX12_wayLine_32 rfl) dX12_wayLine_33 rfl)) (c_eq_F (pF := 54) (s_getI ck12 10 (by decide) rfl (s_aload_n dX12_wayLine_36 rfl rfl) dX12_wayLine_37 w6_215) (s_dAI (s_getR ck12 19 (by decide) rfl (s_aload_n dX12_wayLine_40 rfl rfl) dX12_wayLine_41 w6_224) (s_iload_n dX12_wayLine_44 rfl rfl) dX12_wayLine_45) dX12_wayLine_46 rfl)) (t_do (x_callV (ts := [(0, 2), (1, 0)]) ck12 rfl kX12_fails mokX12_fails w7_218 ps4_1 rfl rfl rfl rfl (a_I (ts := [(0, 2)]) 1 (a_R (ts := []) 0 a_nil (s_aload_n dX12_wayLine_49 rfl rfl) rfl) (s_iconst dX12_wayLine_50 rfl) rfl) dX12_wayLine_51 w7_216) rfl) (t_skip (ld_in rfl) rfl) (lda_cons (ld_in rfl) lda_nil) (lda_cons (ld_in rfl) lda_nil)) (t_sq (p1 := 66) (Γ' := [(0, 2), (1, 0)]) (t_stI (s_getR ck12 19 (by decide) rfl (s_aload_n dX12_wayLine_54 rfl rfl) dX12_wayLine_55 w6_224) (s_iadd (s_iload_n dX12_wayLine_58 rfl rfl) (s_iconst dX12_wayLine_59 rfl) dX12_wayLine_60) (s_of_xI (x_callV (ts := [(0, 2)]) ck12 rfl kX12_houseHere mokX12_houseHere w8_12 ps4_8 rfl rfl rfl rfl (a_R (ts := []) 0 a_nil (s_aload_n dX12_wayLine_61 rfl rfl) rfl) dX12_wayLine_62 w8_10)) dX12_wayLine_65 rfl) (t_sq (p1 := 78) (Γ' := [(0, 2), (1, 0)]) (t_do (x_callV (ts := [(0, 2), (1, 0), (2, 0)]) ck12 rfl kX12_tellsOf mokX12_tellsOf w7_180 ps3_9 rfl rfl rfl rfl (a_I (ts := [(0, 2), (1, 0)]) 2 (a_I (ts := [(0, 2)]) 1 (a_R (ts := []) 0 a_nil (s_aload_n dX12_wayLine_66 rfl rfl) rfl) (s_iconst dX12_wayLine_67 rfl) rfl) (s_iadd (s_of_xI (x_callV (ts := [(0, 2), (1, 0)]) ck12 rfl kX12_hasRead mokX12_hasRead w8_2 ps4_6 rfl rfl rfl rfl (a_I (ts := [(0, 2)]) 1 (a_R (ts := []) 0 a_nil (s_aload_n dX12_wayLine_68 rfl rfl) rfl) (s_iconst dX12_wayLine_69 rfl) rfl) dX12_wayLine_70 w8_0)) (s_iconst dX12_wayLine_73 rfl) dX12_wayLine_74) rfl) dX12_wayLine_75 w7_178) rfl) (t_ret0 (fun _ _ => rfl) dX12_wayLine_78))))))
noncomputable def DX12_wayLine : Fr → St → Option (Unit × St) := M1 (fun f => (sR fr0 0 (gR f 0))) BX12_wayLine
theorem kX12_wayLine : SND yX12_wayLine cX12_wayLine 2 none 5 [(0, 2)] cvoV DX12_wayLine := snd_V (nw := 1) (by decide) (fun z => by cases z) rfl rfl (fun _ _ => rfl) sBX12_wayLine
theorem dX12_carrierLine_0 : decode cX12_carrierLine 0 = .ok (.iconst 2, 1) := by decide +kernel
theorem dX12_carrierLine_1 : decode cX12_carrierLine 1 = .ok (.bipush 20, 2) := by decide +kernel
theorem dX12_carrierLine_3 : decode cX12_carrierLine 3 = .ok (.aload_n 0, 1) := by decide +kernel
theorem dX12_carrierLine_4 : decode cX12_carrierLine 4 = .ok (.iconst 5, 1) := by decide +kernel
theorem dX12_carrierLine_5 : decode cX12_carrierLine 5 = .ok (.invokevirtual 204, 3) := by decide +kernel
theorem dX12_carrierLine_8 : decode cX12_carrierLine 8 = .ok (.iadd, 1) := by decide +kernel
theorem dX12_carrierLine_9 : decode cX12_carrierLine 9 = .ok (.imul, 1) := by decide +kernel
theorem dX12_carrierLine_10 : decode cX12_carrierLine 10 = .ok (.istore_n 1, 1) := by decide +kernel
theorem dX12_carrierLine_11 : decode cX12_carrierLine 11 = .ok (.aload_n 0, 1) := by decide +kernel
theorem dX12_carrierLine_12 : decode cX12_carrierLine 12 = .ok (.getfield 43, 3) := by decide +kernel
theorem dX12_carrierLine_15 : decode cX12_carrierLine 15 = .ok (.iload_n 1, 1) := by decide +kernel
theorem dX12_carrierLine_16 : decode cX12_carrierLine 16 = .ok (.aload_n 0, 1) := by decide +kernel
theorem dX12_carrierLine_17 : decode cX12_carrierLine 17 = .ok (.ldc2_w 219, 3) := by decide +kernel
theorem dX12_carrierLine_20 : decode cX12_carrierLine 20 = .ok (.invokevirtual 221, 3) := by decide +kernel
theorem dX12_carrierLine_23 : decode cX12_carrierLine 23 = .ok (.iastore, 1) := by decide +kernel
theorem dX12_carrierLine_24 : decode cX12_carrierLine 24 = .ok (.aload_n 0, 1) := by decide +kernel
theorem dX12_carrierLine_25 : decode cX12_carrierLine 25 = .ok (.getfield 43, 3) := by decide +kernel
theorem dX12_carrierLine_28 : decode cX12_carrierLine 28 = .ok (.iload_n 1, 1) := by decide +kernel
theorem dX12_carrierLine_29 : decode cX12_carrierLine 29 = .ok (.iconst 1, 1) := by decide +kernel
theorem dX12_carrierLine_30 : decode cX12_carrierLine 30 = .ok (.iadd, 1) := by decide +kernel
theorem dX12_carrierLine_31 : decode cX12_carrierLine 31 = .ok (.aload_n 0, 1) := by decide +kernel
theorem dX12_carrierLine_32 : decode cX12_carrierLine 32 = .ok (.ldc2_w 224, 3) := by decide +kernel
theorem dX12_carrierLine_35 : decode cX12_carrierLine 35 = .ok (.iconst 0, 1) := by decide +kernel
theorem dX12_carrierLine_36 : decode cX12_carrierLine 36 = .ok (.bipush 99, 2) := by decide +kernel
theorem dX12_carrierLine_38 : decode cX12_carrierLine 38 = .ok (.invokevirtual 208, 3) := by decide +kernel
theorem dX12_carrierLine_41 : decode cX12_carrierLine 41 = .ok (.iastore, 1) := by decide +kernel
theorem dX12_carrierLine_42 : decode cX12_carrierLine 42 = .ok (.aload_n 0, 1) := by decide +kernel
theorem dX12_carrierLine_43 : decode cX12_carrierLine 43 = .ok (.iconst 5, 1) := by decide +kernel
theorem dX12_carrierLine_44 : decode cX12_carrierLine 44 = .ok (.aload_n 0, 1) := by decide +kernel
theorem dX12_carrierLine_45 : decode cX12_carrierLine 45 = .ok (.iconst 5, 1) := by decide +kernel
theorem dX12_carrierLine_46 : decode cX12_carrierLine 46 = .ok (.invokevirtual 204, 3) := by decide +kernel
theorem dX12_carrierLine_49 : decode cX12_carrierLine 49 = .ok (.iconst 1, 1) := by decide +kernel
theorem dX12_carrierLine_50 : decode cX12_carrierLine 50 = .ok (.iadd, 1) := by decide +kernel
theorem dX12_carrierLine_51 : decode cX12_carrierLine 51 = .ok (.invokevirtual 215, 3) := by decide +kernel
theorem dX12_carrierLine_54 : decode cX12_carrierLine 54 = .ok (.return_, 1) := by decide +kernel
theorem mokX12_carrierLine : MOK yX12_carrierLine cX12_carrierLine 2 none 0 := ⟨w8_18, w1_13, ⟨by decide, by decide⟩, by decide +kernel, by decide⟩
abbrev miX12_carrierLine : MI := (yX12_carrierLine.cls, cX12_carrierLine, 2, 7, false)
noncomputable def BX12_carrierLine : Sm Unit := (dSeq (dSetI 1 (d2 o_imul (cI 2) (d2 o_iadd (cI 20) (dCallV 12 DX12_hasRead (aI (aR aN 0 (vR 0)) 1 (cI 5)))))) (dSeq (d3 (stI 13 idI) (dGR 12 20 (vR 0)) (vI 1) (dCallV 12 DX12_houseHere_ (aL (aR aN 0 (vR 0)) 1 (cL 47)))) (dSeq (d3 (stI 13 idI) (dGR 12 20 (vR 0)) (d2 o_iadd (vI 1) (cI 1)) (dCallV 12 DX12_number_ (aI (aI (aL (aR aN 0 (vR 0)) 1 (cL 283623667)) 3 (cI 0)) 4 (cI 99)))) (dSeq (dDo (dCallV 12 DX12_tellsOf (aI (aI (aR aN 0 (vR 0)) 1 (cI 5)) 2 (d2 o_iadd (dCallV 12 DX12_hasRead (aI (aR aN 0 (vR 0)) 1 (cI 5))) (cI 1))))) dRet0))))
theorem sBX12_carrierLine : SS (cvoV, .return_) miX12_carrierLine [] [] [] [(0, 2)] [(0, 2)] 0 [] BX12_carrierLine := (t_sq (p1 := 11) (Γ' := [(0, 2), (1, 0)]) (t_istore_n (s_imul (s_iconst dX12_carrierLine_0 rfl) (s_iadd (s_bipush dX12_carrierLine_1 rfl) (s_of_xI (x_callV (ts := [(0, 2), (1, 0)]) ck12 rfl kX12_hasRead mokX12_hasRead w8_2 ps4_6 rfl rfl rfl rfl (a_I (ts := [(0, 2)]) 1 (a_R (ts := []) 0 a_nil (s_aload_n dX12_carrierLine_3 rfl rfl) rfl) (s_iconst dX12_carrierLine_4 rfl) rfl) dX12_carrierLine_5 w8_0)) dX12_carrierLine_8) dX12_carrierLine_9) dX12_carrierLine_10 rfl rfl rfl) (t_sq (p1 := 24) (Γ' := [(0, 2), (1, 0)]) (t_stI (s_getR ck12 20 (by decide) rfl (s_aload_n dX12_carrierLine_11 rfl rfl) dX12_carrierLine_12 w6_225) (s_iload_n dX12_carrierLine_15 rfl rfl) (s_of_xI (x_callV (ts := [(0, 2), (1, 1)]) ck12 rfl kX12_houseHere_ mokX12_houseHere_ w8_22 ps4_10 rfl rfl rfl rfl (a_L (ts := [(0, 2)]) 1 (a_R (ts := []) 0 a_nil (s_aload_n dX12_carrierLine_16 rfl rfl) rfl) (s_ldc2 dX12_carrierLine_17 w8_19) rfl) dX12_carrierLine_20 w8_20)) dX12_carrierLine_23 rfl) (t_sq (p1 := 42) (Γ' := [(0, 2), (1, 0)]) (t_stI (s_getR ck12 20 (by decide) rfl (s_aload_n dX12_carrierLine_24 rfl rfl) dX12_carrierLine_25 w6_225) (s_iadd (s_iload_n dX12_carrierLine_28 rfl rfl) (s_iconst dX12_carrierLine_29 rfl) dX12_carrierLine_30) (s_of_xI (x_callV (ts := [(0, 2), (1, 1), (3, 0), (4, 0)]) ck12 rfl kX12_number_ mokX12_number_ w7_223 ps4_2 rfl rfl rfl rfl (a_I (ts := [(0, 2), (1, 1), (3, 0)]) 4 (a_I (ts := [(0, 2), (1, 1)]) 3 (a_L (ts := [(0, 2)]) 1 (a_R (ts := []) 0 a_nil (s_aload_n dX12_carrierLine_31 rfl rfl) rfl) (s_ldc2 dX12_carrierLine_32 w8_24) rfl) (s_iconst dX12_carrierLine_35 rfl) rfl) (s_bipush dX12_carrierLine_36 rfl) rfl) dX12_carrierLine_38 w7_221)) dX12_carrierLine_41 rfl) (t_sq (p1 := 54) (Γ' := [(0, 2), (1, 0)]) (t_do (x_callV (ts := [(0, 2), (1, 0), (2, 0)]) ck12 rfl kX12_tellsOf mokX12_tellsOf w7_180 ps3_9 rfl rfl rfl rfl (a_I (ts := [(0, 2), (1, 0)]) 2 (a_I (ts := [(0, 2)]) 1 (a_R (ts := []) 0 a_nil (s_aload_n dX12_carrierLine_42 rfl rfl) rfl) (s_iconst dX12_carrierLine_43 rfl) rfl) (s_iadd (s_of_xI (x_callV (ts := [(0, 2), (1, 0)]) ck12 rfl kX12_hasRead mokX12_hasRead w8_2 ps4_6 rfl rfl rfl rfl (a_I (ts := [(0, 2)]) 1 (a_R (ts := []) 0 a_nil (s_aload_n dX12_carrierLine_44 rfl rfl) rfl) (s_iconst dX12_carrierLine_45 rfl) rfl) dX12_carrierLine_46 w8_0)) (s_iconst dX12_carrierLine_49 rfl) dX12_carrierLine_50) rfl) dX12_carrierLine_51 w7_178) rfl) (t_ret0 (fun _ _ => rfl) dX12_carrierLine_54)))))
noncomputable def DX12_carrierLine : Fr → St → Option (Unit × St) := M1 (fun f => (sR fr0 0 (gR f 0))) BX12_carrierLine
theorem kX12_carrierLine : SND yX12_carrierLine cX12_carrierLine 2 none 7 [(0, 2)] cvoV DX12_carrierLine := snd_V (nw := 1) (by decide) (fun z => by cases z) rfl rfl (fun _ _ => rfl) sBX12_carrierLine
theorem dX12_slateLine_0 : decode cX12_slateLine 0 = .ok (.bipush 12, 2) := by decide +kernel
theorem dX12_slateLine_2 : decode cX12_slateLine 2 = .ok (.aload_n 0, 1) := by decide +kernel
theorem dX12_slateLine_3 : decode cX12_slateLine 3 = .ok (.bipush 6, 2) := by decide +kernel
theorem dX12_slateLine_5 : decode cX12_slateLine 5 = .ok (.invokevirtual 204, 3) := by decide +kernel
theorem dX12_slateLine_8 : decode cX12_slateLine 8 = .ok (.iadd, 1) := by decide +kernel
theorem dX12_slateLine_9 : decode cX12_slateLine 9 = .ok (.istore_n 1, 1) := by decide +kernel
theorem dX12_slateLine_10 : decode cX12_slateLine 10 = .ok (.aload_n 0, 1) := by decide +kernel
theorem dX12_slateLine_11 : decode cX12_slateLine 11 = .ok (.getfield 46, 3) := by decide +kernel
theorem dX12_slateLine_14 : decode cX12_slateLine 14 = .ok (.iload_n 1, 1) := by decide +kernel
theorem dX12_slateLine_15 : decode cX12_slateLine 15 = .ok (.aload_n 0, 1) := by decide +kernel
theorem dX12_slateLine_16 : decode cX12_slateLine 16 = .ok (.ldc2_w 219, 3) := by decide +kernel
theorem dX12_slateLine_19 : decode cX12_slateLine 19 = .ok (.invokevirtual 221, 3) := by decide +kernel
theorem dX12_slateLine_22 : decode cX12_slateLine 22 = .ok (.iastore, 1) := by decide +kernel
theorem dX12_slateLine_23 : decode cX12_slateLine 23 = .ok (.aload_n 0, 1) := by decide +kernel
theorem dX12_slateLine_24 : decode cX12_slateLine 24 = .ok (.getfield 49, 3) := by decide +kernel
theorem dX12_slateLine_27 : decode cX12_slateLine 27 = .ok (.iload_n 1, 1) := by decide +kernel
theorem dX12_slateLine_28 : decode cX12_slateLine 28 = .ok (.iconst 0, 1) := by decide +kernel
theorem dX12_slateLine_29 : decode cX12_slateLine 29 = .ok (.iastore, 1) := by decide +kernel
theorem dX12_slateLine_30 : decode cX12_slateLine 30 = .ok (.aload_n 0, 1) := by decide +kernel
theorem dX12_slateLine_31 : decode cX12_slateLine 31 = .ok (.ldc2_w 226, 3) := by decide +kernel
theorem dX12_slateLine_34 : decode cX12_slateLine 34 = .ok (.invokevirtual 193, 3) := by decide +kernel
theorem dX12_slateLine_37 : decode cX12_slateLine 37 = .ok (.aload_n 0, 1) := by decide +kernel
theorem dX12_slateLine_38 : decode cX12_slateLine 38 = .ok (.getfield 174, 3) := by decide +kernel
theorem dX12_slateLine_41 : decode cX12_slateLine 41 = .ok (.ifCond .ne 86, 3) := by decide +kernel
theorem dX12_slateLine_44 : decode cX12_slateLine 44 = .ok (.aload_n 0, 1) := by decide +kernel
theorem dX12_slateLine_45 : decode cX12_slateLine 45 = .ok (.getfield 52, 3) := by decide +kernel
theorem dX12_slateLine_48 : decode cX12_slateLine 48 = .ok (.bipush 6, 2) := by decide +kernel
theorem dX12_slateLine_50 : decode cX12_slateLine 50 = .ok (.iload_n 1, 1) := by decide +kernel
theorem dX12_slateLine_51 : decode cX12_slateLine 51 = .ok (.imul, 1) := by decide +kernel
theorem dX12_slateLine_52 : decode cX12_slateLine 52 = .ok (.aload_n 0, 1) := by decide +kernel
theorem dX12_slateLine_53 : decode cX12_slateLine 53 = .ok (.getfield 49, 3) := by decide +kernel
theorem dX12_slateLine_56 : decode cX12_slateLine 56 = .ok (.iload_n 1, 1) := by decide +kernel
theorem dX12_slateLine_57 : decode cX12_slateLine 57 = .ok (.iaload, 1) := by decide +kernel
theorem dX12_slateLine_58 : decode cX12_slateLine 58 = .ok (.iadd, 1) := by decide +kernel
theorem dX12_slateLine_59 : decode cX12_slateLine 59 = .ok (.aload_n 0, 1) := by decide +kernel
theorem dX12_slateLine_60 : decode cX12_slateLine 60 = .ok (.iconst 1, 1) := by decide +kernel
theorem dX12_slateLine_61 : decode cX12_slateLine 61 = .ok (.bipush 30, 2) := by decide +kernel
theorem dX12_slateLine_63 : decode cX12_slateLine 63 = .ok (.invokevirtual 197, 3) := by decide +kernel
theorem dX12_slateLine_66 : decode cX12_slateLine 66 = .ok (.iastore, 1) := by decide +kernel
theorem dX12_slateLine_67 : decode cX12_slateLine 67 = .ok (.aload_n 0, 1) := by decide +kernel
theorem dX12_slateLine_68 : decode cX12_slateLine 68 = .ok (.getfield 49, 3) := by decide +kernel
theorem dX12_slateLine_71 : decode cX12_slateLine 71 = .ok (.iload_n 1, 1) := by decide +kernel
theorem dX12_slateLine_72 : decode cX12_slateLine 72 = .ok (.dup2, 1) := by decide +kernel
theorem dX12_slateLine_73 : decode cX12_slateLine 73 = .ok (.iaload, 1) := by decide +kernel
theorem dX12_slateLine_74 : decode cX12_slateLine 74 = .ok (.iconst 1, 1) := by decide +kernel
theorem dX12_slateLine_75 : decode cX12_slateLine 75 = .ok (.iadd, 1) := by decide +kernel
theorem dX12_slateLine_76 : decode cX12_slateLine 76 = .ok (.iastore, 1) := by decide +kernel
theorem dX12_slateLine_77 : decode cX12_slateLine 77 = .ok (.aload_n 0, 1) := by decide +kernel
theorem dX12_slateLine_78 : decode cX12_slateLine 78 = .ok (.getfield 174, 3) := by decide +kernel
theorem dX12_slateLine_81 : decode cX12_slateLine 81 = .ok (.ifCond .ne 46, 3) := by decide +kernel
theorem dX12_slateLine_84 : decode cX12_slateLine 84 = .ok (.aload_n 0, 1) := by decide +kernel
theorem dX12_slateLine_85 : decode cX12_slateLine 85 = .ok (.ldc2_w 226, 3) := by decide +kernel
theorem dX12_slateLine_88 : decode cX12_slateLine 88 = .ok (.invokevirtual 180, 3) := by decide +kernel
theorem dX12_slateLine_91 : decode cX12_slateLine 91 = .ok (.ifCond .ne 6, 3) := by decide +kernel
theorem dX12_slateLine_94 : decode cX12_slateLine 94 = .ok (.goto 33, 3) := by decide +kernel
theorem dX12_slateLine_97 : decode cX12_slateLine 97 = .ok (.aload_n 0, 1) := by decide +kernel
theorem dX12_slateLine_98 : decode cX12_slateLine 98 = .ok (.getfield 49, 3) := by decide +kernel
theorem dX12_slateLine_101 : decode cX12_slateLine 101 = .ok (.iload_n 1, 1) := by decide +kernel
theorem dX12_slateLine_102 : decode cX12_slateLine 102 = .ok (.iaload, 1) := by decide +kernel
theorem dX12_slateLine_103 : decode cX12_slateLine 103 = .ok (.bipush 6, 2) := by decide +kernel
theorem dX12_slateLine_105 : decode cX12_slateLine 105 = .ok (.if_icmp .ne 8, 3) := by decide +kernel
theorem dX12_slateLine_108 : decode cX12_slateLine 108 = .ok (.aload_n 0, 1) := by decide +kernel
theorem dX12_slateLine_109 : decode cX12_slateLine 109 = .ok (.iconst 3, 1) := by decide +kernel
theorem dX12_slateLine_110 : decode cX12_slateLine 110 = .ok (.invokevirtual 190, 3) := by decide +kernel
theorem dX12_slateLine_113 : decode cX12_slateLine 113 = .ok (.aload_n 0, 1) := by decide +kernel
theorem dX12_slateLine_114 : decode cX12_slateLine 114 = .ok (.getfield 174, 3) := by decide +kernel
theorem dX12_slateLine_117 : decode cX12_slateLine 117 = .ok (.ifCond .ne (-80), 3) := by decide +kernel
theorem dX12_slateLine_120 : decode cX12_slateLine 120 = .ok (.aload_n 0, 1) := by decide +kernel
theorem dX12_slateLine_121 : decode cX12_slateLine 121 = .ok (.invokevirtual 184, 3) := by decide +kernel
theorem dX12_slateLine_124 : decode cX12_slateLine 124 = .ok (.goto (-87), 3) := by decide +kernel
theorem dX12_slateLine_127 : decode cX12_slateLine 127 = .ok (.aload_n 0, 1) := by decide +kernel
theorem dX12_slateLine_128 : decode cX12_slateLine 128 = .ok (.bipush 6, 2) := by decide +kernel
theorem dX12_slateLine_130 : decode cX12_slateLine 130 = .ok (.aload_n 0, 1) := by decide +kernel
theorem dX12_slateLine_131 : decode cX12_slateLine 131 = .ok (.bipush 6, 2) := by decide +kernel
theorem dX12_slateLine_133 : decode cX12_slateLine 133 = .ok (.invokevirtual 204, 3) := by decide +kernel
theorem dX12_slateLine_136 : decode cX12_slateLine 136 = .ok (.iconst 1, 1) := by decide +kernel
theorem dX12_slateLine_137 : decode cX12_slateLine 137 = .ok (.iadd, 1) := by decide +kernel
theorem dX12_slateLine_138 : decode cX12_slateLine 138 = .ok (.invokevirtual 215, 3) := by decide +kernel
theorem dX12_slateLine_141 : decode cX12_slateLine 141 = .ok (.return_, 1) := by decide +kernel
theorem mokX12_slateLine : MOK yX12_slateLine cX12_slateLine 2 none 0 := ⟨w8_29, w1_13, ⟨by decide, by decide⟩, by decide +kernel, by decide⟩
abbrev miX12_slateLine : MI := (yX12_slateLine.cls, cX12_slateLine, 2, 7, false)
noncomputable def LX12_slateLine_1 : Sm Unit := dLoop (fun f => (sI (sR fr0 0 (gR f 0)) 1 (gI f 1))) (dCZ q_eq (dGI 12 12 (vR 0))) (dSeq (d3 (stI 13 idI) (dGR 12 23 (vR 0)) (d2 o_iadd (d2 o_imul (cI 6) (vI 1)) (dAI (dGR 12 22 (vR 0)) (vI 1))) (dCallV 12 DX12_number (aI (aI (aR aN 0 (vR 0)) 1 (cI 1)) 2 (cI 30)))) (dSeq (dUA o_iadd (dGR 12 22 (vR 0)) (vI 1) (cI 1)) (dSeq (dIf (dOr (dCZ q_ne (dGI 12 12 (vR 0))) (dNot (dCZ q_ne (dCallV 12 DX12_is (aL (aR aN 0 (vR 0)) 1 (cL 464134)))))) dBrk dSkip) (dSeq (dIf (dCI r_eq (dAI (dGR 12 22 (vR 0)) (vI 1)) (cI 6)) (dDo (dCallV 12 DX12_fails (aI (aR aN 0 (vR 0)) 1 (cI 3)))) dSkip) (dIf (dCZ q_eq (dGI 12 12 (vR 0))) (dDo (dCallV 12 DX12_next (aR aN 0 (vR 0)))) dSkip))))) dSkip
theorem sLX12_slateLine_1 {ΓL : Gm} {PB PK : List Nat} : SS (cvoV, .return_) miX12_slateLine ΓL PB PK [(0, 2), (1, 0)] [(0, 2), (1, 0)] 37 [127] LX12_slateLine_1 := t_loop (pT := 44) (pF := 127) (pu := 37) (PB' := [127]) (PK' := []) (XB := [37]) (XU := [37]) (fun _ _ => rfl) rfl (c_eq_ZF (pF := 127) (s_getI ck12 12 (by decide) rfl (s_aload_n dX12_slateLine_37 rfl rfl) dX12_slateLine_38 w6_217) dX12_slateLine_41 rfl) (t_sq (p1 := 67) (Γ' := [(0, 2), (1, 0)]) (t_stI (s_getR ck12 23 (by decide) rfl (s_aload_n dX12_slateLine_44 rfl rfl) dX12_slateLine_45 w6_228) (s_iadd (s_imul (s_bipush dX12_slateLine_48 rfl) (s_iload_n dX12_slateLine_50 rfl rfl) dX12_slateLine_51) (s_dAI (s_getR ck12 22 (by decide) rfl (s_aload_n dX12_slateLine_52 rfl rfl) dX12_slateLine_53 w6_227) (s_iload_n dX12_slateLine_56 rfl rfl) dX12_slateLine_57) dX12_slateLine_58) (s_of_xI (x_callV (ts := [(0, 2), (1, 0), (2, 0)]) ck12 rfl kX12_number mokX12_number w7_227 ps4_3 rfl rfl rfl rfl (a_I (ts := [(0, 2), (1, 0)]) 2 (a_I (ts := [(0, 2)]) 1 (a_R (ts := []) 0 a_nil (s_aload_n dX12_slateLine_59 rfl rfl) rfl) (s_iconst dX12_slateLine_60 rfl) rfl) (s_bipush dX12_slateLine_61 rfl) rfl) dX12_slateLine_63 w7_225)) dX12_slateLine_66 rfl) (t_sq (p1 := 77) (Γ' := [(0, 2), (1, 0)]) (t_UA (s_getR ck12 22 (by decide) rfl (s_aload_n dX12_slateLine_67 rfl rfl) dX12_slateLine_68 w6_227) (s_iload_n dX12_slateLine_71 rfl rfl) dX12_slateLine_72 dX12_slateLine_73 (s_iconst dX12_slateLine_74 rfl) (fun _ _ _ _ => rulI fun a b K => lv_iadd a b dX12_slateLine_75 K) dX12_slateLine_76 rfl) (t_sq (p1 := 97) (Γ' := [(0, 2), (1, 0)]) (t_if (pT := 127) (pF := 97) (X := [97]) (XA := []) (XB := [97]) (c_or (p1 := 84) (pT := 127) (pF := 97) (c_ne_ZJ (pT := 127) (s_getI ck12 12 (by decide) rfl (s_aload_n dX12_slateLine_77 rfl rfl) dX12_slateLine_78 w6_217) dX12_slateLine_81 rfl) (c_ldT (p1 := 94) (c_not (pT := 94) (pF := 97) (c_ne_ZJ (pT := 97) (s_of_xI (x_callV (ts := [(0, 2), (1, 1)]) ck12 rfl kX12_is mokX12_is w7_214 ps4_0 rfl rfl rfl rfl (a_L (ts := [(0, 2)]) 1 (a_R (ts := []) 0 a_nil (s_aload_n dX12_slateLine_84 rfl rfl) rfl) (s_ldc2 dX12_slateLine_85 w8_30) rfl) dX12_slateLine_88 w7_212)) dX12_slateLine_91 rfl)) (ld_goto (y := 127) dX12_slateLine_94 rfl (ld_in rfl)))) (t_brk (ld_in rfl) rfl) (t_skip (ld_in rfl) rfl) lda_nil (lda_cons (ld_in rfl) lda_nil)) (t_sq (p1 := 113) (Γ' := [(0, 2), (1, 0)]) (t_if (pT := 108) (pF := 113) (X := [113]) (XA := [113]) (XB := [113]) (c_eq_F (pF := 113) (s_dAI (s_getR ck12 22 (by decide) rfl (s_aload_n dX12_slateLine_97 rfl rfl) dX12_slateLine_98 w6_227) (s_iload_n dX12_slateLine_101 rfl rfl) dX12_slateLine_102) (s_bipush dX12_slateLine_103 rfl) dX12_slateLine_105 rfl) (t_do (x_callV (ts := [(0, 2), (1, 0)]) ck12 rfl kX12_fails mokX12_fails w7_218 ps4_1 rfl rfl rfl rfl (a_I (ts := [(0, 2)]) 1 (a_R (ts := []) 0 a_nil (s_aload_n dX12_slateLine_108 rfl rfl) rfl) (s_iconst dX12_slateLine_109 rfl) rfl) dX12_slateLine_110 w7_216) rfl) (t_skip (ld_in rfl) rfl) (lda_cons (ld_in rfl) lda_nil) (lda_cons (ld_in rfl) lda_nil)) (t_if (pT := 120) (pF := 37) (X := [37]) (XA := [124]) (XB := [37]) (c_eq_ZF (pF := 37) (s_getI ck12 12 (by decide) rfl (s_aload_n dX12_slateLine_113 rfl rfl) dX12_slateLine_114 w6_217) dX12_slateLine_117 rfl) (t_do (x_callV (ts := [(0, 2)]) ck12 rfl kX12_next mokX12_next w7_188 ps3_11 rfl rfl rfl rfl (a_R (ts := []) 0 a_nil (s_aload_n dX12_slateLine_120 rfl rfl) rfl) dX12_slateLine_121 w7_186) rfl) (t_skip (ld_in rfl) rfl) (lda_cons (ld_goto (y := 37) dX12_slateLine_124 rfl (ld_in rfl)) lda_nil) (lda_cons (ld_in rfl) lda_nil)))))) (t_skip (ld_in rfl) rfl) (lda_cons (ld_in rfl) lda_nil) lda_nil (lda_cons (ld_in rfl) lda_nil) (ld_in rfl) (lda_cons (ld_in rfl) lda_nil)
noncomputable def BX12_slateLine : Sm Unit := (dSeq (dSetI 1 (d2 o_iadd (cI 12) (dCallV 12 DX12_hasRead (aI (aR aN 0 (vR 0)) 1 (cI 6))))) (dSeq (d3 (stI 13 idI) (dGR 12 21 (vR 0)) (vI 1) (dCallV 12 DX12_houseHere_ (aL (aR aN 0 (vR 0)) 1 (cL 47)))) (dSeq (d3 (stI 13 idI) (dGR 12 22 (vR 0)) (vI 1) (cI 0)) (dSeq (dDo (dCallV 12 DX12_asks (aL (aR aN 0 (vR 0)) 1 (cL 464134)))) (dSeq LX12_slateLine_1 (dSeq (dDo (dCallV 12 DX12_tellsOf (aI (aI (aR aN 0 (vR 0)) 1 (cI 6)) 2 (d2 o_iadd (dCallV 12 DX12_hasRead (aI (aR aN 0 (vR 0)) 1 (cI 6))) (cI 1))))) dRet0))))))
theorem sBX12_slateLine : SS (cvoV, .return_) miX12_slateLine [] [] [] [(0, 2)] [(0, 2)] 0 [] BX12_slateLine := (t_sq (p1 := 10) (Γ' := [(0, 2), (1, 0)]) (t_istore_n (s_iadd (s_bipush dX12_slateLine_0 rfl) (s_of_xI (x_callV (ts := [(0, 2), (1, 0)]) ck12 rfl kX12_hasRead mokX12_hasRead w8_2 ps4_6 rfl rfl rfl rfl (a_I (ts := [(0, 2)]) 1 (a_R (ts := []) 0 a_nil (s_aload_n dX12_slateLine_2 rfl rfl) rfl) (s_bipush dX12_slateLine_3 rfl) rfl) dX12_slateLine_5 w8_0)) dX12_slateLine_8) dX12_slateLine_9 rfl rfl rfl) (t_sq (p1 := 23) (Γ' := [(0, 2), (1, 0)]) (t_stI (s_getR ck12 21 (by decide) rfl (s_aload_n dX12_slateLine_10 rfl rfl) dX12_slateLine_11 w6_226) (s_iload_n dX12_slateLine_14 rfl rfl) (s_of_xI (x_callV (ts := [(0, 2), (1, 1)]) ck12 rfl kX12_houseHere_ mokX12_houseHere_ w8_22 ps4_10 rfl rfl rfl rfl (a_L (ts := [(0, 2)]) 1 (a_R (ts := []) 0 a_nil (s_aload_n dX12_slateLine_15 rfl rfl) rfl) (s_ldc2 dX12_slateLine_16 w8_19) rfl) dX12_slateLine_19 w8_20)) dX12_slateLine_22 rfl) (t_sq (p1 := 30) (Γ' := [(0, 2), (1, 0)]) (t_stI (s_getR ck12 22 (by decide) rfl (s_aload_n dX12_slateLine_23 rfl rfl) dX12_slateLine_24 w6_227) (s_iload_n dX12_slateLine_27 rfl rfl) (s_iconst dX12_slateLine_28 rfl) dX12_slateLine_29 rfl) (t_sq (p1 := 37) (Γ' := [(0, 2), (1, 0)]) (t_do (x_callV (ts := [(0, 2), (1, 1)]) ck12 rfl kX12_asks mokX12_asks w7_206 ps3_14 rfl rfl rfl rfl (a_L (ts := [(0, 2)]) 1 (a_R (ts := []) 0 a_nil (s_aload_n dX12_slateLine_30 rfl rfl) rfl) (s_ldc2 dX12_slateLine_31 w8_30) rfl) dX12_slateLine_34 w7_204) rfl) (t_sq (p1 := 127) (Γ' := [(0, 2), (1, 0)]) (tn_to (Γ' := [(0, 2), (1, 0)]) (XA := [127]) sLX12_slateLine_1 (lda_cons (ld_in rfl) lda_nil) rfl) (t_sq (p1 := 141) (Γ' := [(0, 2), (1, 0)]) (t_do (x_callV (ts := [(0, 2), (1, 0), (2, 0)]) ck12 rfl kX12_tellsOf mokX12_tellsOf w7_180 ps3_9 rfl rfl rfl rfl (a_I (ts := [(0, 2), (1, 0)]) 2 (a_I (ts := [(0, 2)]) 1 (a_R (ts := []) 0 a_nil (s_aload_n dX12_slateLine_127 rfl rfl) rfl) (s_bipush dX12_slateLine_128 rfl) rfl) (s_iadd (s_of_xI (x_callV (ts := [(0, 2), (1, 0)]) ck12 rfl kX12_hasRead mokX12_hasRead w8_2 ps4_6 rfl rfl rfl rfl (a_I (ts := [(0, 2)]) 1 (a_R (ts := []) 0 a_nil (s_aload_n dX12_slateLine_130 rfl rfl) rfl) (s_bipush dX12_slateLine_131 rfl) rfl) dX12_slateLine_133 w8_0)) (s_iconst dX12_slateLine_136 rfl) dX12_slateLine_137) rfl) dX12_slateLine_138 w7_178) rfl) (t_ret0 (fun _ _ => rfl) dX12_slateLine_141)))))))
noncomputable def DX12_slateLine : Fr → St → Option (Unit × St) := M1 (fun f => (sR fr0 0 (gR f 0))) BX12_slateLine
theorem kX12_slateLine : SND yX12_slateLine cX12_slateLine 2 none 7 [(0, 2)] cvoV DX12_slateLine := snd_V (nw := 1) (by decide) (fun z => by cases z) rfl rfl (fun _ _ => rfl) sBX12_slateLine
theorem dX12_carryLine_0 : decode cX12_carryLine 0 = .ok (.iconst 4, 1) := by decide +kernel
theorem dX12_carryLine_1 : decode cX12_carryLine 1 = .ok (.bipush 48, 2) := by decide +kernel
theorem dX12_carryLine_3 : decode cX12_carryLine 3 = .ok (.aload_n 0, 1) := by decide +kernel
theorem dX12_carryLine_4 : decode cX12_carryLine 4 = .ok (.bipush 7, 2) := by decide +kernel
theorem dX12_carryLine_6 : decode cX12_carryLine 6 = .ok (.invokevirtual 204, 3) := by decide +kernel
theorem dX12_carryLine_9 : decode cX12_carryLine 9 = .ok (.iadd, 1) := by decide +kernel
theorem dX12_carryLine_10 : decode cX12_carryLine 10 = .ok (.imul, 1) := by decide +kernel
theorem dX12_carryLine_11 : decode cX12_carryLine 11 = .ok (.istore_n 1, 1) := by decide +kernel
theorem dX12_carryLine_12 : decode cX12_carryLine 12 = .ok (.aload_n 0, 1) := by decide +kernel
theorem dX12_carryLine_13 : decode cX12_carryLine 13 = .ok (.getfield 55, 3) := by decide +kernel
theorem dX12_carryLine_16 : decode cX12_carryLine 16 = .ok (.iload_n 1, 1) := by decide +kernel
theorem dX12_carryLine_17 : decode cX12_carryLine 17 = .ok (.aload_n 0, 1) := by decide +kernel
theorem dX12_carryLine_18 : decode cX12_carryLine 18 = .ok (.iconst 0, 1) := by decide +kernel
theorem dX12_carryLine_19 : decode cX12_carryLine 19 = .ok (.aload_n 0, 1) := by decide +kernel
theorem dX12_carryLine_20 : decode cX12_carryLine 20 = .ok (.iconst 5, 1) := by decide +kernel
theorem dX12_carryLine_21 : decode cX12_carryLine 21 = .ok (.invokevirtual 204, 3) := by decide +kernel
theorem dX12_carryLine_24 : decode cX12_carryLine 24 = .ok (.iconst 1, 1) := by decide +kernel
theorem dX12_carryLine_25 : decode cX12_carryLine 25 = .ok (.isub, 1) := by decide +kernel
theorem dX12_carryLine_26 : decode cX12_carryLine 26 = .ok (.invokevirtual 197, 3) := by decide +kernel
theorem dX12_carryLine_29 : decode cX12_carryLine 29 = .ok (.iastore, 1) := by decide +kernel
theorem dX12_carryLine_30 : decode cX12_carryLine 30 = .ok (.aload_n 0, 1) := by decide +kernel
theorem dX12_carryLine_31 : decode cX12_carryLine 31 = .ok (.getfield 55, 3) := by decide +kernel
theorem dX12_carryLine_34 : decode cX12_carryLine 34 = .ok (.iload_n 1, 1) := by decide +kernel
theorem dX12_carryLine_35 : decode cX12_carryLine 35 = .ok (.iconst 1, 1) := by decide +kernel
theorem dX12_carryLine_36 : decode cX12_carryLine 36 = .ok (.iadd, 1) := by decide +kernel
theorem dX12_carryLine_37 : decode cX12_carryLine 37 = .ok (.aload_n 0, 1) := by decide +kernel
theorem dX12_carryLine_38 : decode cX12_carryLine 38 = .ok (.iconst 0, 1) := by decide +kernel
theorem dX12_carryLine_39 : decode cX12_carryLine 39 = .ok (.aload_n 0, 1) := by decide +kernel
theorem dX12_carryLine_40 : decode cX12_carryLine 40 = .ok (.bipush 6, 2) := by decide +kernel
theorem dX12_carryLine_42 : decode cX12_carryLine 42 = .ok (.invokevirtual 204, 3) := by decide +kernel
theorem dX12_carryLine_45 : decode cX12_carryLine 45 = .ok (.iconst 1, 1) := by decide +kernel
theorem dX12_carryLine_46 : decode cX12_carryLine 46 = .ok (.isub, 1) := by decide +kernel
theorem dX12_carryLine_47 : decode cX12_carryLine 47 = .ok (.invokevirtual 197, 3) := by decide +kernel
theorem dX12_carryLine_50 : decode cX12_carryLine 50 = .ok (.iastore, 1) := by decide +kernel
theorem dX12_carryLine_51 : decode cX12_carryLine 51 = .ok (.aload_n 0, 1) := by decide +kernel
theorem dX12_carryLine_52 : decode cX12_carryLine 52 = .ok (.getfield 55, 3) := by decide +kernel
theorem dX12_carryLine_55 : decode cX12_carryLine 55 = .ok (.iload_n 1, 1) := by decide +kernel
theorem dX12_carryLine_56 : decode cX12_carryLine 56 = .ok (.iconst 2, 1) := by decide +kernel
theorem dX12_carryLine_57 : decode cX12_carryLine 57 = .ok (.iadd, 1) := by decide +kernel
theorem dX12_carryLine_58 : decode cX12_carryLine 58 = .ok (.aload_n 0, 1) := by decide +kernel
theorem dX12_carryLine_59 : decode cX12_carryLine 59 = .ok (.ldc2_w 228, 3) := by decide +kernel
theorem dX12_carryLine_62 : decode cX12_carryLine 62 = .ok (.invokevirtual 221, 3) := by decide +kernel
theorem dX12_carryLine_65 : decode cX12_carryLine 65 = .ok (.iastore, 1) := by decide +kernel
theorem dX12_carryLine_66 : decode cX12_carryLine 66 = .ok (.aload_n 0, 1) := by decide +kernel
theorem dX12_carryLine_67 : decode cX12_carryLine 67 = .ok (.getfield 55, 3) := by decide +kernel
theorem dX12_carryLine_70 : decode cX12_carryLine 70 = .ok (.iload_n 1, 1) := by decide +kernel
theorem dX12_carryLine_71 : decode cX12_carryLine 71 = .ok (.iconst 3, 1) := by decide +kernel
theorem dX12_carryLine_72 : decode cX12_carryLine 72 = .ok (.iadd, 1) := by decide +kernel
theorem dX12_carryLine_73 : decode cX12_carryLine 73 = .ok (.aload_n 0, 1) := by decide +kernel
theorem dX12_carryLine_74 : decode cX12_carryLine 74 = .ok (.ldc2_w 219, 3) := by decide +kernel
theorem dX12_carryLine_77 : decode cX12_carryLine 77 = .ok (.iconst 0, 1) := by decide +kernel
theorem dX12_carryLine_78 : decode cX12_carryLine 78 = .ok (.bipush 11, 2) := by decide +kernel
theorem dX12_carryLine_80 : decode cX12_carryLine 80 = .ok (.invokevirtual 208, 3) := by decide +kernel
theorem dX12_carryLine_83 : decode cX12_carryLine 83 = .ok (.iastore, 1) := by decide +kernel
theorem dX12_carryLine_84 : decode cX12_carryLine 84 = .ok (.aload_n 0, 1) := by decide +kernel
theorem dX12_carryLine_85 : decode cX12_carryLine 85 = .ok (.bipush 7, 2) := by decide +kernel
theorem dX12_carryLine_87 : decode cX12_carryLine 87 = .ok (.aload_n 0, 1) := by decide +kernel
theorem dX12_carryLine_88 : decode cX12_carryLine 88 = .ok (.bipush 7, 2) := by decide +kernel
theorem dX12_carryLine_90 : decode cX12_carryLine 90 = .ok (.invokevirtual 204, 3) := by decide +kernel
theorem dX12_carryLine_93 : decode cX12_carryLine 93 = .ok (.iconst 1, 1) := by decide +kernel
theorem dX12_carryLine_94 : decode cX12_carryLine 94 = .ok (.iadd, 1) := by decide +kernel
theorem dX12_carryLine_95 : decode cX12_carryLine 95 = .ok (.invokevirtual 215, 3) := by decide +kernel
theorem dX12_carryLine_98 : decode cX12_carryLine 98 = .ok (.return_, 1) := by decide +kernel
theorem mokX12_carryLine : MOK yX12_carryLine cX12_carryLine 2 none 0 := ⟨w8_35, w1_13, ⟨by decide, by decide⟩, by decide +kernel, by decide⟩
abbrev miX12_carryLine : MI := (yX12_carryLine.cls, cX12_carryLine, 2, 7, false)
noncomputable def BX12_carryLine : Sm Unit := (dSeq (dSetI 1 (d2 o_imul (cI 4) (d2 o_iadd (cI 48) (dCallV 12 DX12_hasRead (aI (aR aN 0 (vR 0)) 1 (cI 7)))))) (dSeq (d3 (stI 13 idI) (dGR 12 24 (vR 0)) (vI 1) (dCallV 12 DX12_number (aI (aI (aR aN 0 (vR 0)) 1 (cI 0)) 2 (d2 o_isub (dCallV 12 DX12_hasRead (aI (aR aN 0 (vR 0)) 1 (cI 5))) (cI 1))))) (dSeq (d3 (stI 13 idI) (dGR 12 24 (vR 0)) (d2 o_iadd (vI 1) (cI 1)) (dCallV 12 DX12_number (aI (aI (aR aN 0 (vR 0)) 1 (cI 0)) 2 (d2 o_isub (dCallV 12 DX12_hasRead (aI (aR aN 0 (vR 0)) 1 (cI 6))) (cI 1))))) (dSeq (d3 (stI 13 idI) (dGR 12 24 (vR 0)) (d2 o_iadd (vI 1) (cI 2)) (dCallV 12 DX12_houseHere_ (aL (aR aN 0 (vR 0)) 1 (cL 555)))) (dSeq (d3 (stI 13 idI) (dGR 12 24 (vR 0)) (d2 o_iadd (vI 1) (cI 3)) (dCallV 12 DX12_number_ (aI (aI (aL (aR aN 0 (vR 0)) 1 (cL 47)) 3 (cI 0)) 4 (cI 11)))) (dSeq (dDo (dCallV 12 DX12_tellsOf (aI (aI (aR aN 0 (vR 0)) 1 (cI 7)) 2 (d2 o_iadd (dCallV 12 DX12_hasRead (aI (aR aN 0 (vR 0)) 1 (cI 7))) (cI 1))))) dRet0))))))
theorem sBX12_carryLine : SS (cvoV, .return_) miX12_carryLine [] [] [] [(0, 2)] [(0, 2)] 0 [] BX12_carryLine := (t_sq (p1 := 12) (Γ' := [(0, 2), (1, 0)]) (t_istore_n (s_imul (s_iconst dX12_carryLine_0 rfl) (s_iadd (s_bipush dX12_carryLine_1 rfl) (s_of_xI (x_callV (ts := [(0, 2), (1, 0)]) ck12 rfl kX12_hasRead mokX12_hasRead w8_2 ps4_6 rfl rfl rfl rfl (a_I (ts := [(0, 2)]) 1 (a_R (ts := []) 0 a_nil (s_aload_n dX12_carryLine_3 rfl rfl) rfl) (s_bipush dX12_carryLine_4 rfl) rfl) dX12_carryLine_6 w8_0)) dX12_carryLine_9) dX12_carryLine_10) dX12_carryLine_11 rfl rfl rfl) (t_sq (p1 := 30) (Γ' := [(0, 2), (1, 0)]) (t_stI (s_getR ck12 24 (by decide) rfl (s_aload_n dX12_carryLine_12 rfl rfl) dX12_carryLine_13 w6_229) (s_iload_n dX12_carryLine_16 rfl rfl) (s_of_xI (x_callV (ts := [(0, 2), (1, 0), (2, 0)]) ck12 rfl kX12_number mokX12_number w7_227 ps4_3 rfl rfl rfl rfl (a_I (ts := [(0, 2), (1, 0)]) 2 (a_I (ts := [(0, 2)]) 1 (a_R (ts := []) 0 a_nil (s_aload_n dX12_carryLine_17 rfl rfl) rfl) (s_iconst dX12_carryLine_18 rfl) rfl) (s_isub (s_of_xI (x_callV (ts := [(0, 2), (1, 0)]) ck12 rfl kX12_hasRead mokX12_hasRead w8_2 ps4_6 rfl rfl rfl rfl (a_I (ts := [(0, 2)]) 1 (a_R (ts := []) 0 a_nil (s_aload_n dX12_carryLine_19 rfl rfl) rfl) (s_iconst dX12_carryLine_20 rfl) rfl) dX12_carryLine_21 w8_0)) (s_iconst dX12_carryLine_24 rfl) dX12_carryLine_25) rfl) dX12_carryLine_26 w7_225)) dX12_carryLine_29 rfl) (t_sq (p1 := 51) (Γ' := [(0, 2), (1, 0)]) (t_stI (s_getR ck12 24 (by decide) rfl (s_aload_n dX12_carryLine_30 rfl rfl) dX12_carryLine_31 w6_229) (s_iadd (s_iload_n dX12_carryLine_34 rfl rfl) (s_iconst dX12_carryLine_35 rfl) dX12_carryLine_36) (s_of_xI (x_callV (ts := [(0, 2), (1, 0), (2, 0)]) ck12 rfl kX12_number mokX12_number w7_227 ps4_3 rfl rfl rfl rfl (a_I (ts := [(0, 2), (1, 0)]) 2 (a_I (ts := [(0, 2)]) 1 (a_R (ts := []) 0 a_nil (s_aload_n dX12_carryLine_37 rfl rfl) rfl) (s_iconst dX12_carryLine_38 rfl) rfl) (s_isub (s_of_xI (x_callV (ts := [(0, 2), (1, 0)]) ck12 rfl kX12_hasRead mokX12_hasRead w8_2 ps4_6 rfl rfl rfl rfl (a_I (ts := [(0, 2)]) 1 (a_R (ts := []) 0 a_nil (s_aload_n dX12_carryLine_39 rfl rfl) rfl) (s_bipush dX12_carryLine_40 rfl) rfl) dX12_carryLine_42 w8_0)) (s_iconst dX12_carryLine_45 rfl) dX12_carryLine_46) rfl) dX12_carryLine_47 w7_225)) dX12_carryLine_50 rfl) (t_sq (p1 := 66) (Γ' := [(0, 2), (1, 0)]) (t_stI (s_getR ck12 24 (by decide) rfl (s_aload_n dX12_carryLine_51 rfl rfl) dX12_carryLine_52 w6_229) (s_iadd (s_iload_n dX12_carryLine_55 rfl rfl) (s_iconst dX12_carryLine_56 rfl) dX12_carryLine_57) (s_of_xI (x_callV (ts := [(0, 2), (1, 1)]) ck12 rfl kX12_houseHere_ mokX12_houseHere_ w8_22 ps4_10 rfl rfl rfl rfl (a_L (ts := [(0, 2)]) 1 (a_R (ts := []) 0 a_nil (s_aload_n dX12_carryLine_58 rfl rfl) rfl) (s_ldc2 dX12_carryLine_59 w8_36) rfl) dX12_carryLine_62 w8_20)) dX12_carryLine_65 rfl) (t_sq (p1 := 84) (Γ' := [(0, 2), (1, 0)]) (t_stI (s_getR ck12 24 (by decide) rfl (s_aload_n dX12_carryLine_66 rfl rfl) dX12_carryLine_67 w6_229) (s_iadd (s_iload_n dX12_carryLine_70 rfl rfl) (s_iconst dX12_carryLine_71 rfl) dX12_carryLine_72) (s_of_xI (x_callV (ts := [(0, 2), (1, 1), (3, 0), (4, 0)]) ck12 rfl kX12_number_ mokX12_number_ w7_223 ps4_2 rfl rfl rfl rfl (a_I (ts := [(0, 2), (1, 1), (3, 0)]) 4 (a_I (ts := [(0, 2), (1, 1)]) 3 (a_L (ts := [(0, 2)]) 1 (a_R (ts := []) 0 a_nil (s_aload_n dX12_carryLine_73 rfl rfl) rfl) (s_ldc2 dX12_carryLine_74 w8_19) rfl) (s_iconst dX12_carryLine_77 rfl) rfl) (s_bipush dX12_carryLine_78 rfl) rfl) dX12_carryLine_80 w7_221)) dX12_carryLine_83 rfl) (t_sq (p1 := 98) (Γ' := [(0, 2), (1, 0)]) (t_do (x_callV (ts := [(0, 2), (1, 0), (2, 0)]) ck12 rfl kX12_tellsOf mokX12_tellsOf w7_180 ps3_9 rfl rfl rfl rfl (a_I (ts := [(0, 2), (1, 0)]) 2 (a_I (ts := [(0, 2)]) 1 (a_R (ts := []) 0 a_nil (s_aload_n dX12_carryLine_84 rfl rfl) rfl) (s_bipush dX12_carryLine_85 rfl) rfl) (s_iadd (s_of_xI (x_callV (ts := [(0, 2), (1, 0)]) ck12 rfl kX12_hasRead mokX12_hasRead w8_2 ps4_6 rfl rfl rfl rfl (a_I (ts := [(0, 2)]) 1 (a_R (ts := []) 0 a_nil (s_aload_n dX12_carryLine_87 rfl rfl) rfl) (s_bipush dX12_carryLine_88 rfl) rfl) dX12_carryLine_90 w8_0)) (s_iconst dX12_carryLine_93 rfl) dX12_carryLine_94) rfl) dX12_carryLine_95 w7_178) rfl) (t_ret0 (fun _ _ => rfl) dX12_carryLine_98)))))))
noncomputable def DX12_carryLine : Fr → St → Option (Unit × St) := M1 (fun f => (sR fr0 0 (gR f 0))) BX12_carryLine
theorem kX12_carryLine : SND yX12_carryLine cX12_carryLine 2 none 7 [(0, 2)] cvoV DX12_carryLine := snd_V (nw := 1) (by decide) (fun z => by cases z) rfl rfl (fun _ _ => rfl) sBX12_carryLine
theorem dX12_isRoom_0 : decode cX12_isRoom 0 = .ok (.iload_n 1, 1) := by decide +kernel
theorem dX12_isRoom_1 : decode cX12_isRoom 1 = .ok (.ifCond .eq 17, 3) := by decide +kernel
theorem dX12_isRoom_4 : decode cX12_isRoom 4 = .ok (.aload_n 0, 1) := by decide +kernel
theorem dX12_isRoom_5 : decode cX12_isRoom 5 = .ok (.iload_n 2, 1) := by decide +kernel
theorem dX12_isRoom_6 : decode cX12_isRoom 6 = .ok (.invokevirtual 204, 3) := by decide +kernel
theorem dX12_isRoom_9 : decode cX12_isRoom 9 = .ok (.iload_n 3, 1) := by decide +kernel
theorem dX12_isRoom_10 : decode cX12_isRoom 10 = .ok (.if_icmp .ne 8, 3) := by decide +kernel
theorem dX12_isRoom_13 : decode cX12_isRoom 13 = .ok (.aload_n 0, 1) := by decide +kernel
theorem dX12_isRoom_14 : decode cX12_isRoom 14 = .ok (.iconst 3, 1) := by decide +kernel
theorem dX12_isRoom_15 : decode cX12_isRoom 15 = .ok (.invokevirtual 190, 3) := by decide +kernel
theorem dX12_isRoom_18 : decode cX12_isRoom 18 = .ok (.iload_n 1, 1) := by decide +kernel
theorem dX12_isRoom_19 : decode cX12_isRoom 19 = .ok (.ifCond .eq 14, 3) := by decide +kernel
theorem dX12_isRoom_22 : decode cX12_isRoom 22 = .ok (.aload_n 0, 1) := by decide +kernel
theorem dX12_isRoom_23 : decode cX12_isRoom 23 = .ok (.getfield 174, 3) := by decide +kernel
theorem dX12_isRoom_26 : decode cX12_isRoom 26 = .ok (.ifCond .ne 7, 3) := by decide +kernel
theorem dX12_isRoom_29 : decode cX12_isRoom 29 = .ok (.aload_n 0, 1) := by decide +kernel
theorem dX12_isRoom_30 : decode cX12_isRoom 30 = .ok (.invokevirtual 184, 3) := by decide +kernel
theorem dX12_isRoom_33 : decode cX12_isRoom 33 = .ok (.iload_n 1, 1) := by decide +kernel
theorem dX12_isRoom_34 : decode cX12_isRoom 34 = .ok (.ifCond .eq 14, 3) := by decide +kernel
theorem dX12_isRoom_37 : decode cX12_isRoom 37 = .ok (.aload_n 0, 1) := by decide +kernel
theorem dX12_isRoom_38 : decode cX12_isRoom 38 = .ok (.getfield 174, 3) := by decide +kernel
theorem dX12_isRoom_41 : decode cX12_isRoom 41 = .ok (.ifCond .ne 7, 3) := by decide +kernel
theorem dX12_isRoom_44 : decode cX12_isRoom 44 = .ok (.iconst 1, 1) := by decide +kernel
theorem dX12_isRoom_45 : decode cX12_isRoom 45 = .ok (.goto 4, 3) := by decide +kernel
theorem dX12_isRoom_48 : decode cX12_isRoom 48 = .ok (.iconst 0, 1) := by decide +kernel
theorem dX12_isRoom_49 : decode cX12_isRoom 49 = .ok (.ireturn, 1) := by decide +kernel
theorem mokX12_isRoom : MOK yX12_isRoom cX12_isRoom 4 (some .boolean) 3 := ⟨w7_239, w1_13, ⟨by decide, by decide⟩, by decide +kernel, by decide⟩
abbrev miX12_isRoom : MI := (yX12_isRoom.cls, cX12_isRoom, 4, 3, false)
noncomputable def BX12_isRoom : Sm Int32 := (dSeq (dIf (dAnd (dCZ q_ne (vI 1)) (dCI r_eq (dCallV 12 DX12_hasRead (aI (aR aN 0 (vR 0)) 1 (vI 2))) (vI 3))) (dDo (dCallV 12 DX12_fails (aI (aR aN 0 (vR 0)) 1 (cI 3)))) dSkip) (dSeq (dIf (dAnd (dCZ q_ne (vI 1)) (dCZ q_eq (dGI 12 12 (vR 0)))) (dDo (dCallV 12 DX12_next (aR aN 0 (vR 0)))) dSkip) (dRet (dB (dAnd (dCZ q_ne (vI 1)) (dCZ q_eq (dGI 12 12 (vR 0))))))))
theorem sBX12_isRoom : SS (cvoI, .ireturn) miX12_isRoom [] [] [] [(0, 2), (1, 0), (2, 0), (3, 0)] [(0, 2), (1, 0), (2, 0), (3, 0)] 0 [] BX12_isRoom := (t_sq (p1 := 18) (Γ' := [(0, 2), (1, 0), (2, 0), (3, 0)]) (t_if (pT := 13) (pF := 18) (X := [18]) (XA := [18]) (XB := [18]) (c_and (p1 := 4) (pT := 13) (pF := 18) (c_ne_ZF (pF := 18) (s_iload_n dX12_isRoom_0 rfl rfl) dX12_isRoom_1 rfl) (c_eq_F (pF := 18) (s_of_xI (x_callV (ts := [(0, 2), (1, 0)]) ck12 rfl kX12_hasRead mokX12_hasRead w8_2 ps4_6 rfl rfl rfl rfl (a_I (ts := [(0, 2)]) 1 (a_R (ts := []) 0 a_nil (s_aload_n dX12_isRoom_4 rfl rfl) rfl) (s_iload_n dX12_isRoom_5 rfl rfl) rfl) dX12_isRoom_6 w8_0)) (s_iload_n dX12_isRoom_9 rfl rfl) dX12_isRoom_10 rfl)) (t_do (x_callV (ts := [(0, 2), (1, 0)]) ck12 rfl kX12_fails mokX12_fails w7_218 ps4_1 rfl rfl rfl rfl (a_I (ts := [(0, 2)]) 1 (a_R (ts := []) 0 a_nil (s_aload_n dX12_isRoom_13 rfl rfl) rfl) (s_iconst dX12_isRoom_14 rfl) rfl) dX12_isRoom_15 w7_216) rfl) (t_skip (ld_in rfl) rfl) (lda_cons (ld_in rfl) lda_nil) (lda_cons (ld_in rfl) lda_nil)) (t_sq (p1 := 33) (Γ' := [(0, 2), (1, 0), (2, 0), (3, 0)]) (t_if (pT := 29) (pF := 33) (X := [33]) (XA := [33]) (XB := [33]) (c_and (p1 := 22) (pT := 29) (pF := 33) (c_ne_ZF (pF := 33) (s_iload_n dX12_isRoom_18 rfl rfl) dX12_isRoom_19 rfl) (c_eq_ZF (pF := 33) (s_getI ck12 12 (by decide) rfl (s_aload_n dX12_isRoom_22 rfl rfl) dX12_isRoom_23 w6_217) dX12_isRoom_26 rfl)) (t_do (x_callV (ts := [(0, 2)]) ck12 rfl kX12_next mokX12_next w7_188 ps3_11 rfl rfl rfl rfl (a_R (ts := []) 0 a_nil (s_aload_n dX12_isRoom_29 rfl rfl) rfl) dX12_isRoom_30 w7_186) rfl) (t_skip (ld_in rfl) rfl) (lda_cons (ld_in rfl) lda_nil) (lda_cons (ld_in rfl) lda_nil)) (t_ret (cv := cvI) (fun _ _ => rfl) (s_B (pT := 44) (pF := 48) (pe := 49) (c_and (p1 := 37) (pT := 44) (pF := 48) (c_ne_ZF (pF := 48) (s_iload_n dX12_isRoom_33 rfl rfl) dX12_isRoom_34 rfl) (c_eq_ZF (pF := 48) (s_getI ck12 12 (by decide) rfl (s_aload_n dX12_isRoom_37 rfl rfl) dX12_isRoom_38 w6_217) dX12_isRoom_41 rfl)) dX12_isRoom_44 dX12_isRoom_45 rfl dX12_isRoom_48 rfl) dX12_isRoom_49)))
noncomputable def DX12_isRoom : Fr → St → Option (Int32 × St) := MZ (fun f => (sI (sI (sI (sR fr0 0 (gR f 0)) 1 (gI f 1)) 2 (gI f 2)) 3 (gI f 3))) BX12_isRoom
theorem kX12_isRoom : SND yX12_isRoom cX12_isRoom 4 (some .boolean) 3 [(0, 2), (1, 0), (2, 0), (3, 0)] cvoI DX12_isRoom := snd_Z (nw := 4) (by decide) rfl rfl (fun _ _ => rfl) sBX12_isRoom
theorem dX12_lineHere_0 : decode cX12_lineHere 0 = .ok (.aload_n 0, 1) := by decide +kernel
theorem dX12_lineHere_1 : decode cX12_lineHere 1 = .ok (.aload_n 0, 1) := by decide +kernel
theorem dX12_lineHere_2 : decode cX12_lineHere 2 = .ok (.ldc2_w 230, 3) := by decide +kernel
theorem dX12_lineHere_5 : decode cX12_lineHere 5 = .ok (.invokevirtual 180, 3) := by decide +kernel
theorem dX12_lineHere_8 : decode cX12_lineHere 8 = .ok (.iconst 3, 1) := by decide +kernel
theorem dX12_lineHere_9 : decode cX12_lineHere 9 = .ok (.bipush 8, 2) := by decide +kernel
theorem dX12_lineHere_11 : decode cX12_lineHere 11 = .ok (.invokevirtual 232, 3) := by decide +kernel
theorem dX12_lineHere_14 : decode cX12_lineHere 14 = .ok (.ifCond .eq 41, 3) := by decide +kernel
theorem dX12_lineHere_17 : decode cX12_lineHere 17 = .ok (.aload_n 0, 1) := by decide +kernel
theorem dX12_lineHere_18 : decode cX12_lineHere 18 = .ok (.getfield 37, 3) := by decide +kernel
theorem dX12_lineHere_21 : decode cX12_lineHere 21 = .ok (.bipush 32, 2) := by decide +kernel
theorem dX12_lineHere_23 : decode cX12_lineHere 23 = .ok (.aload_n 0, 1) := by decide +kernel
theorem dX12_lineHere_24 : decode cX12_lineHere 24 = .ok (.iconst 3, 1) := by decide +kernel
theorem dX12_lineHere_25 : decode cX12_lineHere 25 = .ok (.invokevirtual 204, 3) := by decide +kernel
theorem dX12_lineHere_28 : decode cX12_lineHere 28 = .ok (.iadd, 1) := by decide +kernel
theorem dX12_lineHere_29 : decode cX12_lineHere 29 = .ok (.aload_n 0, 1) := by decide +kernel
theorem dX12_lineHere_30 : decode cX12_lineHere 30 = .ok (.ldc2_w 236, 3) := by decide +kernel
theorem dX12_lineHere_33 : decode cX12_lineHere 33 = .ok (.iconst 0, 1) := by decide +kernel
theorem dX12_lineHere_34 : decode cX12_lineHere 34 = .ok (.bipush 20, 2) := by decide +kernel
theorem dX12_lineHere_36 : decode cX12_lineHere 36 = .ok (.invokevirtual 208, 3) := by decide +kernel
theorem dX12_lineHere_39 : decode cX12_lineHere 39 = .ok (.iastore, 1) := by decide +kernel
theorem dX12_lineHere_40 : decode cX12_lineHere 40 = .ok (.aload_n 0, 1) := by decide +kernel
theorem dX12_lineHere_41 : decode cX12_lineHere 41 = .ok (.iconst 3, 1) := by decide +kernel
theorem dX12_lineHere_42 : decode cX12_lineHere 42 = .ok (.aload_n 0, 1) := by decide +kernel
theorem dX12_lineHere_43 : decode cX12_lineHere 43 = .ok (.iconst 3, 1) := by decide +kernel
theorem dX12_lineHere_44 : decode cX12_lineHere 44 = .ok (.invokevirtual 204, 3) := by decide +kernel
theorem dX12_lineHere_47 : decode cX12_lineHere 47 = .ok (.iconst 1, 1) := by decide +kernel
theorem dX12_lineHere_48 : decode cX12_lineHere 48 = .ok (.iadd, 1) := by decide +kernel
theorem dX12_lineHere_49 : decode cX12_lineHere 49 = .ok (.invokevirtual 215, 3) := by decide +kernel
theorem dX12_lineHere_52 : decode cX12_lineHere 52 = .ok (.goto 139, 3) := by decide +kernel
theorem dX12_lineHere_55 : decode cX12_lineHere 55 = .ok (.aload_n 0, 1) := by decide +kernel
theorem dX12_lineHere_56 : decode cX12_lineHere 56 = .ok (.getfield 174, 3) := by decide +kernel
theorem dX12_lineHere_59 : decode cX12_lineHere 59 = .ok (.ifCond .ne 27, 3) := by decide +kernel
theorem dX12_lineHere_62 : decode cX12_lineHere 62 = .ok (.aload_n 0, 1) := by decide +kernel
theorem dX12_lineHere_63 : decode cX12_lineHere 63 = .ok (.aload_n 0, 1) := by decide +kernel
theorem dX12_lineHere_64 : decode cX12_lineHere 64 = .ok (.ldc2_w 238, 3) := by decide +kernel
theorem dX12_lineHere_67 : decode cX12_lineHere 67 = .ok (.invokevirtual 180, 3) := by decide +kernel
theorem dX12_lineHere_70 : decode cX12_lineHere 70 = .ok (.iconst 4, 1) := by decide +kernel
theorem dX12_lineHere_71 : decode cX12_lineHere 71 = .ok (.bipush 12, 2) := by decide +kernel
theorem dX12_lineHere_73 : decode cX12_lineHere 73 = .ok (.invokevirtual 232, 3) := by decide +kernel
theorem dX12_lineHere_76 : decode cX12_lineHere 76 = .ok (.ifCond .eq 10, 3) := by decide +kernel
theorem dX12_lineHere_79 : decode cX12_lineHere 79 = .ok (.aload_n 0, 1) := by decide +kernel
theorem dX12_lineHere_80 : decode cX12_lineHere 80 = .ok (.invokevirtual 240, 3) := by decide +kernel
theorem dX12_lineHere_83 : decode cX12_lineHere 83 = .ok (.goto 108, 3) := by decide +kernel
theorem dX12_lineHere_86 : decode cX12_lineHere 86 = .ok (.aload_n 0, 1) := by decide +kernel
theorem dX12_lineHere_87 : decode cX12_lineHere 87 = .ok (.getfield 174, 3) := by decide +kernel
theorem dX12_lineHere_90 : decode cX12_lineHere 90 = .ok (.ifCond .ne 26, 3) := by decide +kernel
theorem dX12_lineHere_93 : decode cX12_lineHere 93 = .ok (.aload_n 0, 1) := by decide +kernel
theorem dX12_lineHere_94 : decode cX12_lineHere 94 = .ok (.aload_n 0, 1) := by decide +kernel
theorem dX12_lineHere_95 : decode cX12_lineHere 95 = .ok (.ldc2_w 243, 3) := by decide +kernel
theorem dX12_lineHere_98 : decode cX12_lineHere 98 = .ok (.invokevirtual 180, 3) := by decide +kernel
theorem dX12_lineHere_101 : decode cX12_lineHere 101 = .ok (.iconst 5, 1) := by decide +kernel
theorem dX12_lineHere_102 : decode cX12_lineHere 102 = .ok (.iconst 5, 1) := by decide +kernel
theorem dX12_lineHere_103 : decode cX12_lineHere 103 = .ok (.invokevirtual 232, 3) := by decide +kernel
theorem dX12_lineHere_106 : decode cX12_lineHere 106 = .ok (.ifCond .eq 10, 3) := by decide +kernel
theorem dX12_lineHere_109 : decode cX12_lineHere 109 = .ok (.aload_n 0, 1) := by decide +kernel
theorem dX12_lineHere_110 : decode cX12_lineHere 110 = .ok (.invokevirtual 245, 3) := by decide +kernel
theorem dX12_lineHere_113 : decode cX12_lineHere 113 = .ok (.goto 78, 3) := by decide +kernel
theorem dX12_lineHere_116 : decode cX12_lineHere 116 = .ok (.aload_n 0, 1) := by decide +kernel
theorem dX12_lineHere_117 : decode cX12_lineHere 117 = .ok (.getfield 174, 3) := by decide +kernel
theorem dX12_lineHere_120 : decode cX12_lineHere 120 = .ok (.ifCond .ne 27, 3) := by decide +kernel
theorem dX12_lineHere_123 : decode cX12_lineHere 123 = .ok (.aload_n 0, 1) := by decide +kernel
theorem dX12_lineHere_124 : decode cX12_lineHere 124 = .ok (.aload_n 0, 1) := by decide +kernel
theorem dX12_lineHere_125 : decode cX12_lineHere 125 = .ok (.ldc2_w 248, 3) := by decide +kernel
theorem dX12_lineHere_128 : decode cX12_lineHere 128 = .ok (.invokevirtual 180, 3) := by decide +kernel
theorem dX12_lineHere_131 : decode cX12_lineHere 131 = .ok (.bipush 6, 2) := by decide +kernel
theorem dX12_lineHere_133 : decode cX12_lineHere 133 = .ok (.iconst 3, 1) := by decide +kernel
theorem dX12_lineHere_134 : decode cX12_lineHere 134 = .ok (.invokevirtual 232, 3) := by decide +kernel
theorem dX12_lineHere_137 : decode cX12_lineHere 137 = .ok (.ifCond .eq 10, 3) := by decide +kernel
theorem dX12_lineHere_140 : decode cX12_lineHere 140 = .ok (.aload_n 0, 1) := by decide +kernel
theorem dX12_lineHere_141 : decode cX12_lineHere 141 = .ok (.invokevirtual 250, 3) := by decide +kernel
theorem dX12_lineHere_144 : decode cX12_lineHere 144 = .ok (.goto 47, 3) := by decide +kernel
theorem dX12_lineHere_147 : decode cX12_lineHere 147 = .ok (.aload_n 0, 1) := by decide +kernel
theorem dX12_lineHere_148 : decode cX12_lineHere 148 = .ok (.getfield 174, 3) := by decide +kernel
theorem dX12_lineHere_151 : decode cX12_lineHere 151 = .ok (.ifCond .ne 28, 3) := by decide +kernel
theorem dX12_lineHere_154 : decode cX12_lineHere 154 = .ok (.aload_n 0, 1) := by decide +kernel
theorem dX12_lineHere_155 : decode cX12_lineHere 155 = .ok (.aload_n 0, 1) := by decide +kernel
theorem dX12_lineHere_156 : decode cX12_lineHere 156 = .ok (.ldc2_w 253, 3) := by decide +kernel
theorem dX12_lineHere_159 : decode cX12_lineHere 159 = .ok (.invokevirtual 180, 3) := by decide +kernel
theorem dX12_lineHere_162 : decode cX12_lineHere 162 = .ok (.bipush 7, 2) := by decide +kernel
theorem dX12_lineHere_164 : decode cX12_lineHere 164 = .ok (.bipush 12, 2) := by decide +kernel
theorem dX12_lineHere_166 : decode cX12_lineHere 166 = .ok (.invokevirtual 232, 3) := by decide +kernel
theorem dX12_lineHere_169 : decode cX12_lineHere 169 = .ok (.ifCond .eq 10, 3) := by decide +kernel
theorem dX12_lineHere_172 : decode cX12_lineHere 172 = .ok (.aload_n 0, 1) := by decide +kernel
theorem dX12_lineHere_173 : decode cX12_lineHere 173 = .ok (.invokevirtual 255, 3) := by decide +kernel
theorem dX12_lineHere_176 : decode cX12_lineHere 176 = .ok (.goto 15, 3) := by decide +kernel
theorem dX12_lineHere_179 : decode cX12_lineHere 179 = .ok (.aload_n 0, 1) := by decide +kernel
theorem dX12_lineHere_180 : decode cX12_lineHere 180 = .ok (.getfield 174, 3) := by decide +kernel
theorem dX12_lineHere_183 : decode cX12_lineHere 183 = .ok (.ifCond .ne 8, 3) := by decide +kernel
theorem dX12_lineHere_186 : decode cX12_lineHere 186 = .ok (.aload_n 0, 1) := by decide +kernel
theorem dX12_lineHere_187 : decode cX12_lineHere 187 = .ok (.iconst 1, 1) := by decide +kernel
theorem dX12_lineHere_188 : decode cX12_lineHere 188 = .ok (.invokevirtual 190, 3) := by decide +kernel
theorem dX12_lineHere_191 : decode cX12_lineHere 191 = .ok (.return_, 1) := by decide +kernel
theorem mokX12_lineHere : MOK yX12_lineHere cX12_lineHere 1 none 0 := ⟨w7_234, w1_13, ⟨by decide, by decide⟩, by decide +kernel, by decide⟩
abbrev miX12_lineHere : MI := (yX12_lineHere.cls, cX12_lineHere, 1, 8, false)
noncomputable def BX12_lineHere : Sm Unit := (dSeq (dIf (dCZ q_ne (dCallV 12 DX12_isRoom (aI (aI (aI (aR aN 0 (vR 0)) 1 (dCallV 12 DX12_is (aL (aR aN 0 (vR 0)) 1 (cL 4562600)))) 2 (cI 3)) 3 (cI 8)))) (dSeq (d3 (stI 13 idI) (dGR 12 18 (vR 0)) (d2 o_iadd (cI 32) (dCallV 12 DX12_hasRead (aI (aR aN 0 (vR 0)) 1 (cI 3)))) (dCallV 12 DX12_number_ (aI (aI (aL (aR aN 0 (vR 0)) 1 (cL 164222)) 3 (cI 0)) 4 (cI 20)))) (dDo (dCallV 12 DX12_tellsOf (aI (aI (aR aN 0 (vR 0)) 1 (cI 3)) 2 (d2 o_iadd (dCallV 12 DX12_hasRead (aI (aR aN 0 (vR 0)) 1 (cI 3))) (cI 1)))))) (dIf (dAnd (dCZ q_eq (dGI 12 12 (vR 0))) (dCZ q_ne (dCallV 12 DX12_isRoom (aI (aI (aI (aR aN 0 (vR 0)) 1 (dCallV 12 DX12_is (aL (aR aN 0 (vR 0)) 1 (cL 16819)))) 2 (cI 4)) 3 (cI 12))))) (dDo (dCallV 12 DX12_wayLine (aR aN 0 (vR 0)))) (dIf (dAnd (dCZ q_eq (dGI 12 12 (vR 0))) (dCZ q_ne (dCallV 12 DX12_isRoom (aI (aI (aI (aR aN 0 (vR 0)) 1 (dCallV 12 DX12_is (aL (aR aN 0 (vR 0)) 1 (cL 1186537320)))) 2 (cI 5)) 3 (cI 5))))) (dDo (dCallV 12 DX12_carrierLine (aR aN 0 (vR 0)))) (dIf (dAnd (dCZ q_eq (dGI 12 12 (vR 0))) (dCZ q_ne (dCallV 12 DX12_isRoom (aI (aI (aI (aR aN 0 (vR 0)) 1 (dCallV 12 DX12_is (aL (aR aN 0 (vR 0)) 1 (cL 10334849)))) 2 (cI 6)) 3 (cI 3))))) (dDo (dCallV 12 DX12_slateLine (aR aN 0 (vR 0)))) (dIf (dAnd (dCZ q_eq (dGI 12 12 (vR 0))) (dCZ q_ne (dCallV 12 DX12_isRoom (aI (aI (aI (aR aN 0 (vR 0)) 1 (dCallV 12 DX12_is (aL (aR aN 0 (vR 0)) 1 (cL 1627639)))) 2 (cI 7)) 3 (cI 12))))) (dDo (dCallV 12 DX12_carryLine (aR aN 0 (vR 0)))) (dIf (dCZ q_eq (dGI 12 12 (vR 0))) (dDo (dCallV 12 DX12_fails (aI (aR aN 0 (vR 0)) 1 (cI 1)))) dSkip)))))) dRet0)
theorem sBX12_lineHere : SS (cvoV, .return_) miX12_lineHere [] [] [] [(0, 2)] [(0, 2)] 0 [] BX12_lineHere := (t_sq (p1 := 191) (Γ' := [(0, 2)]) (t_if (pT := 17) (pF := 55) (X := [191]) (XA := [52]) (XB := [191]) (c_ne_ZF (pF := 55) (s_of_xI (x_callV (ts := [(0, 2), (1, 0), (2, 0), (3, 0)]) ck12 rfl kX12_isRoom mokX12_isRoom w7_238 ps4_5 rfl rfl rfl rfl (a_I (ts := [(0, 2), (1, 0), (2, 0)]) 3 (a_I (ts := [(0, 2), (1, 0)]) 2 (a_I (ts := [(0, 2)]) 1 (a_R (ts := []) 0 a_nil (s_aload_n dX12_lineHere_0 rfl rfl) rfl) (s_of_xI (x_callV (ts := [(0, 2), (1, 1)]) ck12 rfl kX12_is mokX12_is w7_214 ps4_0 rfl rfl rfl rfl (a_L (ts := [(0, 2)]) 1 (a_R (ts := []) 0 a_nil (s_aload_n dX12_lineHere_1 rfl rfl) rfl) (s_ldc2 dX12_lineHere_2 w7_235) rfl) dX12_lineHere_5 w7_212)) rfl) (s_iconst dX12_lineHere_8 rfl) rfl) (s_bipush dX12_lineHere_9 rfl) rfl) dX12_lineHere_11 w7_236)) dX12_lineHere_14 rfl) (t_sq (p1 := 40) (Γ' := [(0, 2)]) (t_stI (s_getR ck12 18 (by decide) rfl (s_aload_n dX12_lineHere_17 rfl rfl) dX12_lineHere_18 w6_223) (s_iadd (s_bipush dX12_lineHere_21 rfl) (s_of_xI (x_callV (ts := [(0, 2), (1, 0)]) ck12 rfl kX12_hasRead mokX12_hasRead w8_2 ps4_6 rfl rfl rfl rfl (a_I (ts := [(0, 2)]) 1 (a_R (ts := []) 0 a_nil (s_aload_n dX12_lineHere_23 rfl rfl) rfl) (s_iconst dX12_lineHere_24 rfl) rfl) dX12_lineHere_25 w8_0)) dX12_lineHere_28) (s_of_xI (x_callV (ts := [(0, 2), (1, 1), (3, 0), (4, 0)]) ck12 rfl kX12_number_ mokX12_number_ w7_223 ps4_2 rfl rfl rfl rfl (a_I (ts := [(0, 2), (1, 1), (3, 0)]) 4 (a_I (ts := [(0, 2), (1, 1)]) 3 (a_L (ts := [(0, 2)]) 1 (a_R (ts := []) 0 a_nil (s_aload_n dX12_lineHere_29 rfl rfl) rfl) (s_ldc2 dX12_lineHere_30 w8_4) rfl) (s_iconst dX12_lineHere_33 rfl) rfl) (s_bipush dX12_lineHere_34 rfl) rfl) dX12_lineHere_36 w7_221)) dX12_lineHere_39 rfl) (t_do (x_callV (ts := [(0, 2), (1, 0), (2, 0)]) ck12 rfl kX12_tellsOf mokX12_tellsOf w7_180 ps3_9 rfl rfl rfl rfl (a_I (ts := [(0, 2), (1, 0)]) 2 (a_I (ts := [(0, 2)]) 1 (a_R (ts := []) 0 a_nil (s_aload_n dX12_lineHere_40 rfl rfl) rfl) (s_iconst dX12_lineHere_41 rfl) rfl) (s_iadd (s_of_xI (x_callV (ts := [(0, 2), (1, 0)]) ck12 rfl kX12_hasRead mokX12_hasRead w8_2 ps4_6 rfl rfl rfl rfl (a_I (ts := [(0, 2)]) 1 (a_R (ts := []) 0 a_nil (s_aload_n dX12_lineHere_42 rfl rfl) rfl) (s_iconst dX12_lineHere_43 rfl) rfl) dX12_lineHere_44 w8_0)) (s_iconst dX12_lineHere_47 rfl) dX12_lineHere_48) rfl) dX12_lineHere_49 w7_178) rfl)) (t_if (pT := 79) (pF := 86) (X := [191]) (XA := [83]) (XB := [191]) (c_and (p1 := 62) (pT := 79) (pF := 86) (c_eq_ZF (pF := 86) (s_getI ck12 12 (by decide) rfl (s_aload_n dX12_lineHere_55 rfl rfl) dX12_lineHere_56 w6_217) dX12_lineHere_59 rfl) (c_ne_ZF (pF := 86) (s_of_xI (x_callV (ts := [(0, 2), (1, 0), (2, 0), (3, 0)]) ck12 rfl kX12_isRoom mokX12_isRoom w7_238 ps4_5 rfl rfl rfl rfl (a_I (ts := [(0, 2), (1, 0), (2, 0)]) 3 (a_I (ts := [(0, 2), (1, 0)]) 2 (a_I (ts := [(0, 2)]) 1 (a_R (ts := []) 0 a_nil (s_aload_n dX12_lineHere_62 rfl rfl) rfl) (s_of_xI (x_callV (ts := [(0, 2), (1, 1)]) ck12 rfl kX12_is mokX12_is w7_214 ps4_0 rfl rfl rfl rfl (a_L (ts := [(0, 2)]) 1 (a_R (ts := []) 0 a_nil (s_aload_n dX12_lineHere_63 rfl rfl) rfl) (s_ldc2 dX12_lineHere_64 w8_5) rfl) dX12_lineHere_67 w7_212)) rfl) (s_iconst dX12_lineHere_70 rfl) rfl) (s_bipush dX12_lineHere_71 rfl) rfl) dX12_lineHere_73 w7_236)) dX12_lineHere_76 rfl)) (t_do (x_callV (ts := [(0, 2)]) ck12 rfl kX12_wayLine mokX12_wayLine w8_8 ps4_7 rfl rfl rfl rfl (a_R (ts := []) 0 a_nil (s_aload_n dX12_lineHere_79 rfl rfl) rfl) dX12_lineHere_80 w8_6) rfl) (t_if (pT := 109) (pF := 116) (X := [191]) (XA := [113]) (XB := [191]) (c_and (p1 := 93) (pT := 109) (pF := 116) (c_eq_ZF (pF := 116) (s_getI ck12 12 (by decide) rfl (s_aload_n dX12_lineHere_86 rfl rfl) dX12_lineHere_87 w6_217) dX12_lineHere_90 rfl) (c_ne_ZF (pF := 116) (s_of_xI (x_callV (ts := [(0, 2), (1, 0), (2, 0), (3, 0)]) ck12 rfl kX12_isRoom mokX12_isRoom w7_238 ps4_5 rfl rfl rfl rfl (a_I (ts := [(0, 2), (1, 0), (2, 0)]) 3 (a_I (ts := [(0, 2), (1, 0)]) 2 (a_I (ts := [(0, 2)]) 1 (a_R (ts := []) 0 a_nil (s_aload_n dX12_lineHere_93 rfl rfl) rfl) (s_of_xI (x_callV (ts := [(0, 2), (1, 1)]) ck12 rfl kX12_is mokX12_is w7_214 ps4_0 rfl rfl rfl rfl (a_L (ts := [(0, 2)]) 1 (a_R (ts := []) 0 a_nil (s_aload_n dX12_lineHere_94 rfl rfl) rfl) (s_ldc2 dX12_lineHere_95 w8_14) rfl) dX12_lineHere_98 w7_212)) rfl) (s_iconst dX12_lineHere_101 rfl) rfl) (s_iconst dX12_lineHere_102 rfl) rfl) dX12_lineHere_103 w7_236)) dX12_lineHere_106 rfl)) (t_do (x_callV (ts := [(0, 2)]) ck12 rfl kX12_carrierLine mokX12_carrierLine w8_17 ps4_9 rfl rfl rfl rfl (a_R (ts := []) 0 a_nil (s_aload_n dX12_lineHere_109 rfl rfl) rfl) dX12_lineHere_110 w8_15) rfl) (t_if (pT := 140) (pF := 147) (X := [191]) (XA := [144]) (XB := [191]) (c_and (p1 := 123) (pT := 140) (pF := 147) (c_eq_ZF (pF := 147) (s_getI ck12 12 (by decide) rfl (s_aload_n dX12_lineHere_116 rfl rfl) dX12_lineHere_117 w6_217) dX12_lineHere_120 rfl) (c_ne_ZF (pF := 147) (s_of_xI (x_callV (ts := [(0, 2), (1, 0), (2, 0), (3, 0)]) ck12 rfl kX12_isRoom mokX12_isRoom w7_238 ps4_5 rfl rfl rfl rfl (a_I (ts := [(0, 2), (1, 0), (2, 0)]) 3 (a_I (ts := [(0, 2), (1, 0)]) 2 (a_I (ts := [(0, 2)]) 1 (a_R (ts := []) 0 a_nil (s_aload_n dX12_lineHere_123 rfl rfl) rfl) (s_of_xI (x_callV (ts := [(0, 2), (1, 1)]) ck12 rfl kX12_is mokX12_is w7_214 ps4_0 rfl rfl rfl rfl (a_L (ts := [(0, 2)]) 1 (a_R (ts := []) 0 a_nil (s_aload_n dX12_lineHere_124 rfl rfl) rfl) (s_ldc2 dX12_lineHere_125 w8_25) rfl) dX12_lineHere_128 w7_212)) rfl) (s_bipush dX12_lineHere_131 rfl) rfl) (s_iconst dX12_lineHere_133 rfl) rfl) dX12_lineHere_134 w7_236)) dX12_lineHere_137 rfl)) (t_do (x_callV (ts := [(0, 2)]) ck12 rfl kX12_slateLine mokX12_slateLine w8_28 ps4_11 rfl rfl rfl rfl (a_R (ts := []) 0 a_nil (s_aload_n dX12_lineHere_140 rfl rfl) rfl) dX12_lineHere_141 w8_26) rfl) (t_if (pT := 172) (pF := 179) (X := [191]) (XA := [176]) (XB := [191]) (c_and (p1 := 154) (pT := 172) (pF := 179) (c_eq_ZF (pF := 179) (s_getI ck12 12 (by decide) rfl (s_aload_n dX12_lineHere_147 rfl rfl) dX12_lineHere_148 w6_217) dX12_lineHere_151 rfl) (c_ne_ZF (pF := 179) (s_of_xI (x_callV (ts := [(0, 2), (1, 0), (2, 0), (3, 0)]) ck12 rfl kX12_isRoom mokX12_isRoom w7_238 ps4_5 rfl rfl rfl rfl (a_I (ts := [(0, 2), (1, 0), (2, 0)]) 3 (a_I (ts := [(0, 2), (1, 0)]) 2 (a_I (ts := [(0, 2)]) 1 (a_R (ts := []) 0 a_nil (s_aload_n dX12_lineHere_154 rfl rfl) rfl) (s_of_xI (x_callV (ts := [(0, 2), (1, 1)]) ck12 rfl kX12_is mokX12_is w7_214 ps4_0 rfl rfl rfl rfl (a_L (ts := [(0, 2)]) 1 (a_R (ts := []) 0 a_nil (s_aload_n dX12_lineHere_155 rfl rfl) rfl) (s_ldc2 dX12_lineHere_156 w8_31) rfl) dX12_lineHere_159 w7_212)) rfl) (s_bipush dX12_lineHere_162 rfl) rfl) (s_bipush dX12_lineHere_164 rfl) rfl) dX12_lineHere_166 w7_236)) dX12_lineHere_169 rfl)) (t_do (x_callV (ts := [(0, 2)]) ck12 rfl kX12_carryLine mokX12_carryLine w8_34 ps4_12 rfl rfl rfl rfl (a_R (ts := []) 0 a_nil (s_aload_n dX12_lineHere_172 rfl rfl) rfl) dX12_lineHere_173 w8_32) rfl) (t_if (pT := 186) (pF := 191) (X := [191]) (XA := [191]) (XB := [191]) (c_eq_ZF (pF := 191) (s_getI ck12 12 (by decide) rfl (s_aload_n dX12_lineHere_179 rfl rfl) dX12_lineHere_180 w6_217) dX12_lineHere_183 rfl) (t_do (x_callV (ts := [(0, 2), (1, 0)]) ck12 rfl kX12_fails mokX12_fails w7_218 ps4_1 rfl rfl rfl rfl (a_I (ts := [(0, 2)]) 1 (a_R (ts := []) 0 a_nil (s_aload_n dX12_lineHere_186 rfl rfl) rfl) (s_iconst dX12_lineHere_187 rfl) rfl) dX12_lineHere_188 w7_216) rfl) (t_skip (ld_in rfl) rfl) (lda_cons (ld_in rfl) lda_nil) (lda_cons (ld_in rfl) lda_nil)) (lda_cons (ld_goto (y := 191) dX12_lineHere_176 rfl (ld_in rfl)) lda_nil) (lda_cons (ld_in rfl) lda_nil)) (lda_cons (ld_goto (y := 191) dX12_lineHere_144 rfl (ld_in rfl)) lda_nil) (lda_cons (ld_in rfl) lda_nil)) (lda_cons (ld_goto (y := 191) dX12_lineHere_113 rfl (ld_in rfl)) lda_nil) (lda_cons (ld_in rfl) lda_nil)) (lda_cons (ld_goto (y := 191) dX12_lineHere_83 rfl (ld_in rfl)) lda_nil) (lda_cons (ld_in rfl) lda_nil)) (lda_cons (ld_goto (y := 191) dX12_lineHere_52 rfl (ld_in rfl)) lda_nil) (lda_cons (ld_in rfl) lda_nil)) (t_ret0 (fun _ _ => rfl) dX12_lineHere_191))
noncomputable def DX12_lineHere : Fr → St → Option (Unit × St) := M1 (fun f => (sR fr0 0 (gR f 0))) BX12_lineHere
theorem kX12_lineHere : SND yX12_lineHere cX12_lineHere 1 none 8 [(0, 2)] cvoV DX12_lineHere := snd_V (nw := 1) (by decide) (fun z => by cases z) rfl rfl (fun _ _ => rfl) sBX12_lineHere
theorem dX12_clears_0 : decode cX12_clears 0 = .ok (.aload_n 0, 1) := by decide +kernel
theorem dX12_clears_1 : decode cX12_clears 1 = .ok (.getfield 31, 3) := by decide +kernel
theorem dX12_clears_4 : decode cX12_clears 4 = .ok (.iconst 4, 1) := by decide +kernel
theorem dX12_clears_5 : decode cX12_clears 5 = .ok (.iconst 0, 1) := by decide +kernel
theorem dX12_clears_6 : decode cX12_clears 6 = .ok (.iastore, 1) := by decide +kernel
theorem dX12_clears_7 : decode cX12_clears 7 = .ok (.iconst 0, 1) := by decide +kernel
theorem dX12_clears_8 : decode cX12_clears 8 = .ok (.istore_n 1, 1) := by decide +kernel
theorem dX12_clears_9 : decode cX12_clears 9 = .ok (.iload_n 1, 1) := by decide +kernel
theorem dX12_clears_10 : decode cX12_clears 10 = .ok (.bipush 9, 2) := by decide +kernel
theorem dX12_clears_12 : decode cX12_clears 12 = .ok (.if_icmp .ge 15, 3) := by decide +kernel
theorem dX12_clears_15 : decode cX12_clears 15 = .ok (.aload_n 0, 1) := by decide +kernel
theorem dX12_clears_16 : decode cX12_clears 16 = .ok (.iload_n 1, 1) := by decide +kernel
theorem dX12_clears_17 : decode cX12_clears 17 = .ok (.iconst 0, 1) := by decide +kernel
theorem dX12_clears_18 : decode cX12_clears 18 = .ok (.invokevirtual 215, 3) := by decide +kernel
theorem dX12_clears_21 : decode cX12_clears 21 = .ok (.iinc 1 1, 3) := by decide +kernel
theorem dX12_clears_24 : decode cX12_clears 24 = .ok (.goto (-15), 3) := by decide +kernel
theorem dX12_clears_27 : decode cX12_clears 27 = .ok (.return_, 1) := by decide +kernel
theorem mokX12_clears : MOK yX12_clears cX12_clears 2 none 0 := ⟨w7_177, w1_13, ⟨by decide, by decide⟩, by decide +kernel, by decide⟩
abbrev miX12_clears : MI := (yX12_clears.cls, cX12_clears, 2, 2, false)
noncomputable def LX12_clears_1 : Sm Unit := dLoop (fun f => (sI (sR fr0 0 (gR f 0)) 1 (gI f 1))) (dCI r_lt (vI 1) (cI 9)) (dDo (dCallV 12 DX12_tellsOf (aI (aI (aR aN 0 (vR 0)) 1 (vI 1)) 2 (cI 0)))) (dInc 1 1)
theorem sLX12_clears_1 {ΓL : Gm} {PB PK : List Nat} : SS (cvoV, .return_) miX12_clears ΓL PB PK [(0, 2), (1, 0)] [(0, 2), (1, 0)] 9 [27] LX12_clears_1 := t_loop (pT := 15) (pF := 27) (pu := 21) (PB' := []) (PK' := []) (XB := [21]) (XU := [24]) (fun _ _ => rfl) rfl (c_lt_F (pF := 27) (s_iload_n dX12_clears_9 rfl rfl) (s_bipush dX12_clears_10 rfl) dX12_clears_12 rfl) (t_do (x_callV (ts := [(0, 2), (1, 0), (2, 0)]) ck12 rfl kX12_tellsOf mokX12_tellsOf w7_180 ps3_9 rfl rfl rfl rfl (a_I (ts := [(0, 2), (1, 0)]) 2 (a_I (ts := [(0, 2)]) 1 (a_R (ts := []) 0 a_nil (s_aload_n dX12_clears_15 rfl rfl) rfl) (s_iload_n dX12_clears_16 rfl rfl) rfl) (s_iconst dX12_clears_17 rfl) rfl) dX12_clears_18 w7_178) rfl) (t_iinc dX12_clears_21 rfl rfl rfl rfl) (lda_cons (ld_in rfl) lda_nil) lda_nil (lda_cons (ld_goto (y := 9) dX12_clears_24 rfl (ld_in rfl)) lda_nil) (ld_in rfl) lda_nil
noncomputable def BX12_clears : Sm Unit := (dSeq (d3 (stI 13 idI) (dGR 12 16 (vR 0)) (cI 4) (cI 0)) (dSeq (dSeq (dSetI 1 (cI 0)) LX12_clears_1) dRet0))
theorem sBX12_clears : SS (cvoV, .return_) miX12_clears [] [] [] [(0, 2)] [(0, 2)] 0 [] BX12_clears := (t_sq (p1 := 7) (Γ' := [(0, 2)]) (t_stI (s_getR ck12 16 (by decide) rfl (s_aload_n dX12_clears_0 rfl rfl) dX12_clears_1 w6_221) (s_iconst dX12_clears_4 rfl) (s_iconst dX12_clears_5 rfl) dX12_clears_6 rfl) (t_sq (p1 := 27) (Γ' := [(0, 2)]) (t_sq (p1 := 9) (Γ' := [(0, 2), (1, 0)]) (t_istore_n (s_iconst dX12_clears_7 rfl) dX12_clears_8 rfl rfl rfl) (tn_to (Γ' := [(0, 2), (1, 0)]) (XA := [27]) sLX12_clears_1 (lda_cons (ld_in rfl) lda_nil) rfl)) (t_ret0 (fun _ _ => rfl) dX12_clears_27)))
noncomputable def DX12_clears : Fr → St → Option (Unit × St) := M1 (fun f => (sR fr0 0 (gR f 0))) BX12_clears
theorem kX12_clears : SND yX12_clears cX12_clears 2 none 2 [(0, 2)] cvoV DX12_clears := snd_V (nw := 1) (by decide) (fun z => by cases z) rfl rfl (fun _ _ => rfl) sBX12_clears
theorem dX12_copyRow_0 : decode cX12_copyRow 0 = .ok (.iconst 0, 1) := by decide +kernel
theorem dX12_copyRow_1 : decode cX12_copyRow 1 = .ok (.istore 4, 2) := by decide +kernel
theorem dX12_copyRow_3 : decode cX12_copyRow 3 = .ok (.iload 4, 2) := by decide +kernel
theorem dX12_copyRow_5 : decode cX12_copyRow 5 = .ok (.iload_n 1, 1) := by decide +kernel
theorem dX12_copyRow_6 : decode cX12_copyRow 6 = .ok (.if_icmp .ge 25, 3) := by decide +kernel
theorem dX12_copyRow_9 : decode cX12_copyRow 9 = .ok (.aload_n 0, 1) := by decide +kernel
theorem dX12_copyRow_10 : decode cX12_copyRow 10 = .ok (.iload_n 1, 1) := by decide +kernel
theorem dX12_copyRow_11 : decode cX12_copyRow 11 = .ok (.iload_n 3, 1) := by decide +kernel
theorem dX12_copyRow_12 : decode cX12_copyRow 12 = .ok (.imul, 1) := by decide +kernel
theorem dX12_copyRow_13 : decode cX12_copyRow 13 = .ok (.iload 4, 2) := by decide +kernel
theorem dX12_copyRow_15 : decode cX12_copyRow 15 = .ok (.iadd, 1) := by decide +kernel
theorem dX12_copyRow_16 : decode cX12_copyRow 16 = .ok (.aload_n 0, 1) := by decide +kernel
theorem dX12_copyRow_17 : decode cX12_copyRow 17 = .ok (.iload_n 1, 1) := by decide +kernel
theorem dX12_copyRow_18 : decode cX12_copyRow 18 = .ok (.iload_n 2, 1) := by decide +kernel
theorem dX12_copyRow_19 : decode cX12_copyRow 19 = .ok (.imul, 1) := by decide +kernel
theorem dX12_copyRow_20 : decode cX12_copyRow 20 = .ok (.iload 4, 2) := by decide +kernel
theorem dX12_copyRow_22 : decode cX12_copyRow 22 = .ok (.iadd, 1) := by decide +kernel
theorem dX12_copyRow_23 : decode cX12_copyRow 23 = .ok (.iaload, 1) := by decide +kernel
theorem dX12_copyRow_24 : decode cX12_copyRow 24 = .ok (.iastore, 1) := by decide +kernel
theorem dX12_copyRow_25 : decode cX12_copyRow 25 = .ok (.iinc 4 1, 3) := by decide +kernel
theorem dX12_copyRow_28 : decode cX12_copyRow 28 = .ok (.goto (-25), 3) := by decide +kernel
theorem dX12_copyRow_31 : decode cX12_copyRow 31 = .ok (.return_, 1) := by decide +kernel
theorem mokX12_copyRow : MOK yX12_copyRow cX12_copyRow 5 none 4 := ⟨w8_51, w1_13, ⟨by decide, by decide⟩, by decide +kernel, by decide⟩
abbrev miX12_copyRow : MI := (yX12_copyRow.cls, cX12_copyRow, 5, 1, false)
noncomputable def LX12_copyRow_1 : Sm Unit := dLoop (fun f => (sI (sI (sI (sI (sR fr0 0 (gR f 0)) 1 (gI f 1)) 2 (gI f 2)) 3 (gI f 3)) 4 (gI f 4))) (dCI r_lt (vI 4) (vI 1)) (d3 (stI 13 idI) (vR 0) (d2 o_iadd (d2 o_imul (vI 1) (vI 3)) (vI 4)) (dAI (vR 0) (d2 o_iadd (d2 o_imul (vI 1) (vI 2)) (vI 4)))) (dInc 4 1)
theorem sLX12_copyRow_1 {ΓL : Gm} {PB PK : List Nat} : SS (cvoV, .return_) miX12_copyRow ΓL PB PK [(0, 2), (1, 0), (2, 0), (3, 0), (4, 0)] [(0, 2), (1, 0), (2, 0), (3, 0), (4, 0)] 3 [31] LX12_copyRow_1 := t_loop (pT := 9) (pF := 31) (pu := 25) (PB' := []) (PK' := []) (XB := [25]) (XU := [28]) (fun _ _ => rfl) rfl (c_lt_F (pF := 31) (s_iload dX12_copyRow_3 rfl) (s_iload_n dX12_copyRow_5 rfl rfl) dX12_copyRow_6 rfl) (t_stI (s_aload_n dX12_copyRow_9 rfl rfl) (s_iadd (s_imul (s_iload_n dX12_copyRow_10 rfl rfl) (s_iload_n dX12_copyRow_11 rfl rfl) dX12_copyRow_12) (s_iload dX12_copyRow_13 rfl) dX12_copyRow_15) (s_dAI (s_aload_n dX12_copyRow_16 rfl rfl) (s_iadd (s_imul (s_iload_n dX12_copyRow_17 rfl rfl) (s_iload_n dX12_copyRow_18 rfl rfl) dX12_copyRow_19) (s_iload dX12_copyRow_20 rfl) dX12_copyRow_22) dX12_copyRow_23) dX12_copyRow_24 rfl) (t_iinc dX12_copyRow_25 rfl rfl rfl rfl) (lda_cons (ld_in rfl) lda_nil) lda_nil (lda_cons (ld_goto (y := 3) dX12_copyRow_28 rfl (ld_in rfl)) lda_nil) (ld_in rfl) lda_nil
noncomputable def BX12_copyRow : Sm Unit := (dSeq (dSeq (dSetI 4 (cI 0)) LX12_copyRow_1) dRet0)
theorem sBX12_copyRow : SS (cvoV, .return_) miX12_copyRow [] [] [] [(0, 2), (1, 0), (2, 0), (3, 0)] [(0, 2), (1, 0), (2, 0), (3, 0)] 0 [] BX12_copyRow := (t_sq (p1 := 31) (Γ' := [(0, 2), (1, 0), (2, 0), (3, 0)]) (t_sq (p1 := 3) (Γ' := [(0, 2), (1, 0), (2, 0), (3, 0), (4, 0)]) (t_istore (s_iconst dX12_copyRow_0 rfl) dX12_copyRow_1 rfl rfl) (tn_to (Γ' := [(0, 2), (1, 0), (2, 0), (3, 0), (4, 0)]) (XA := [31]) sLX12_copyRow_1 (lda_cons (ld_in rfl) lda_nil) rfl)) (t_ret0 (fun _ _ => rfl) dX12_copyRow_31))
noncomputable def DX12_copyRow : Fr → St → Option (Unit × St) := M1 (fun f => (sI (sI (sI (sR fr0 0 (gR f 0)) 1 (gI f 1)) 2 (gI f 2)) 3 (gI f 3))) BX12_copyRow
theorem kX12_copyRow : SND yX12_copyRow cX12_copyRow 5 none 1 [(0, 2), (1, 0), (2, 0), (3, 0)] cvoV DX12_copyRow := snd_V (nw := 4) (by decide) (fun z => by cases z) rfl rfl (fun _ _ => rfl) sBX12_copyRow
theorem dX12_copyPort_0 : decode cX12_copyPort 0 = .ok (.aload_n 0, 1) := by decide +kernel
theorem dX12_copyPort_1 : decode cX12_copyPort 1 = .ok (.getfield 31, 3) := by decide +kernel
theorem dX12_copyPort_4 : decode cX12_copyPort 4 = .ok (.iconst 1, 1) := by decide +kernel
theorem dX12_copyPort_5 : decode cX12_copyPort 5 = .ok (.iload_n 1, 1) := by decide +kernel
theorem dX12_copyPort_6 : decode cX12_copyPort 6 = .ok (.iload_n 2, 1) := by decide +kernel
theorem dX12_copyPort_7 : decode cX12_copyPort 7 = .ok (.invokestatic 288, 3) := by decide +kernel
theorem dX12_copyPort_10 : decode cX12_copyPort 10 = .ok (.aload_n 0, 1) := by decide +kernel
theorem dX12_copyPort_11 : decode cX12_copyPort 11 = .ok (.getfield 34, 3) := by decide +kernel
theorem dX12_copyPort_14 : decode cX12_copyPort 14 = .ok (.bipush 9, 2) := by decide +kernel
theorem dX12_copyPort_16 : decode cX12_copyPort 16 = .ok (.iload_n 1, 1) := by decide +kernel
theorem dX12_copyPort_17 : decode cX12_copyPort 17 = .ok (.iload_n 2, 1) := by decide +kernel
theorem dX12_copyPort_18 : decode cX12_copyPort 18 = .ok (.invokestatic 288, 3) := by decide +kernel
theorem dX12_copyPort_21 : decode cX12_copyPort 21 = .ok (.aload_n 0, 1) := by decide +kernel
theorem dX12_copyPort_22 : decode cX12_copyPort 22 = .ok (.getfield 37, 3) := by decide +kernel
theorem dX12_copyPort_25 : decode cX12_copyPort 25 = .ok (.bipush 8, 2) := by decide +kernel
theorem dX12_copyPort_27 : decode cX12_copyPort 27 = .ok (.iload_n 1, 1) := by decide +kernel
theorem dX12_copyPort_28 : decode cX12_copyPort 28 = .ok (.iload_n 2, 1) := by decide +kernel
theorem dX12_copyPort_29 : decode cX12_copyPort 29 = .ok (.invokestatic 288, 3) := by decide +kernel
theorem dX12_copyPort_32 : decode cX12_copyPort 32 = .ok (.aload_n 0, 1) := by decide +kernel
theorem dX12_copyPort_33 : decode cX12_copyPort 33 = .ok (.getfield 40, 3) := by decide +kernel
theorem dX12_copyPort_36 : decode cX12_copyPort 36 = .ok (.bipush 24, 2) := by decide +kernel
theorem dX12_copyPort_38 : decode cX12_copyPort 38 = .ok (.iload_n 1, 1) := by decide +kernel
theorem dX12_copyPort_39 : decode cX12_copyPort 39 = .ok (.iload_n 2, 1) := by decide +kernel
theorem dX12_copyPort_40 : decode cX12_copyPort 40 = .ok (.invokestatic 288, 3) := by decide +kernel
theorem dX12_copyPort_43 : decode cX12_copyPort 43 = .ok (.aload_n 0, 1) := by decide +kernel
theorem dX12_copyPort_44 : decode cX12_copyPort 44 = .ok (.getfield 43, 3) := by decide +kernel
theorem dX12_copyPort_47 : decode cX12_copyPort 47 = .ok (.bipush 10, 2) := by decide +kernel
theorem dX12_copyPort_49 : decode cX12_copyPort 49 = .ok (.iload_n 1, 1) := by decide +kernel
theorem dX12_copyPort_50 : decode cX12_copyPort 50 = .ok (.iload_n 2, 1) := by decide +kernel
theorem dX12_copyPort_51 : decode cX12_copyPort 51 = .ok (.invokestatic 288, 3) := by decide +kernel
theorem dX12_copyPort_54 : decode cX12_copyPort 54 = .ok (.aload_n 0, 1) := by decide +kernel
theorem dX12_copyPort_55 : decode cX12_copyPort 55 = .ok (.getfield 46, 3) := by decide +kernel
theorem dX12_copyPort_58 : decode cX12_copyPort 58 = .ok (.iconst 3, 1) := by decide +kernel
theorem dX12_copyPort_59 : decode cX12_copyPort 59 = .ok (.iload_n 1, 1) := by decide +kernel
theorem dX12_copyPort_60 : decode cX12_copyPort 60 = .ok (.iload_n 2, 1) := by decide +kernel
theorem dX12_copyPort_61 : decode cX12_copyPort 61 = .ok (.invokestatic 288, 3) := by decide +kernel
theorem dX12_copyPort_64 : decode cX12_copyPort 64 = .ok (.aload_n 0, 1) := by decide +kernel
theorem dX12_copyPort_65 : decode cX12_copyPort 65 = .ok (.getfield 49, 3) := by decide +kernel
theorem dX12_copyPort_68 : decode cX12_copyPort 68 = .ok (.iconst 3, 1) := by decide +kernel
theorem dX12_copyPort_69 : decode cX12_copyPort 69 = .ok (.iload_n 1, 1) := by decide +kernel
theorem dX12_copyPort_70 : decode cX12_copyPort 70 = .ok (.iload_n 2, 1) := by decide +kernel
theorem dX12_copyPort_71 : decode cX12_copyPort 71 = .ok (.invokestatic 288, 3) := by decide +kernel
theorem dX12_copyPort_74 : decode cX12_copyPort 74 = .ok (.aload_n 0, 1) := by decide +kernel
theorem dX12_copyPort_75 : decode cX12_copyPort 75 = .ok (.getfield 52, 3) := by decide +kernel
theorem dX12_copyPort_78 : decode cX12_copyPort 78 = .ok (.bipush 18, 2) := by decide +kernel
theorem dX12_copyPort_80 : decode cX12_copyPort 80 = .ok (.iload_n 1, 1) := by decide +kernel
theorem dX12_copyPort_81 : decode cX12_copyPort 81 = .ok (.iload_n 2, 1) := by decide +kernel
theorem dX12_copyPort_82 : decode cX12_copyPort 82 = .ok (.invokestatic 288, 3) := by decide +kernel
theorem dX12_copyPort_85 : decode cX12_copyPort 85 = .ok (.aload_n 0, 1) := by decide +kernel
theorem dX12_copyPort_86 : decode cX12_copyPort 86 = .ok (.getfield 55, 3) := by decide +kernel
theorem dX12_copyPort_89 : decode cX12_copyPort 89 = .ok (.bipush 48, 2) := by decide +kernel
theorem dX12_copyPort_91 : decode cX12_copyPort 91 = .ok (.iload_n 1, 1) := by decide +kernel
theorem dX12_copyPort_92 : decode cX12_copyPort 92 = .ok (.iload_n 2, 1) := by decide +kernel
theorem dX12_copyPort_93 : decode cX12_copyPort 93 = .ok (.invokestatic 288, 3) := by decide +kernel
theorem dX12_copyPort_96 : decode cX12_copyPort 96 = .ok (.aload_n 0, 1) := by decide +kernel
theorem dX12_copyPort_97 : decode cX12_copyPort 97 = .ok (.getfield 58, 3) := by decide +kernel
theorem dX12_copyPort_100 : decode cX12_copyPort 100 = .ok (.bipush 80, 2) := by decide +kernel
theorem dX12_copyPort_102 : decode cX12_copyPort 102 = .ok (.iload_n 1, 1) := by decide +kernel
theorem dX12_copyPort_103 : decode cX12_copyPort 103 = .ok (.iload_n 2, 1) := by decide +kernel
theorem dX12_copyPort_104 : decode cX12_copyPort 104 = .ok (.invokestatic 288, 3) := by decide +kernel
theorem dX12_copyPort_107 : decode cX12_copyPort 107 = .ok (.return_, 1) := by decide +kernel
theorem mokX12_copyPort : MOK yX12_copyPort cX12_copyPort 3 none 2 := ⟨w8_48, w1_13, ⟨by decide, by decide⟩, by decide +kernel, by decide⟩
abbrev miX12_copyPort : MI := (yX12_copyPort.cls, cX12_copyPort, 3, 2, false)
noncomputable def BX12_copyPort : Sm Unit := (dSeq (dDo (dCall DX12_copyRow (aI (aI (aI (aR aN 0 (dGR 12 16 (vR 0))) 1 (cI 1)) 2 (vI 1)) 3 (vI 2)))) (dSeq (dDo (dCall DX12_copyRow (aI (aI (aI (aR aN 0 (dGR 12 17 (vR 0))) 1 (cI 9)) 2 (vI 1)) 3 (vI 2)))) (dSeq (dDo (dCall DX12_copyRow (aI (aI (aI (aR aN 0 (dGR 12 18 (vR 0))) 1 (cI 8)) 2 (vI 1)) 3 (vI 2)))) (dSeq (dDo (dCall DX12_copyRow (aI (aI (aI (aR aN 0 (dGR 12 19 (vR 0))) 1 (cI 24)) 2 (vI 1)) 3 (vI 2)))) (dSeq (dDo (dCall DX12_copyRow (aI (aI (aI (aR aN 0 (dGR 12 20 (vR 0))) 1 (cI 10)) 2 (vI 1)) 3 (vI 2)))) (dSeq (dDo (dCall DX12_copyRow (aI (aI (aI (aR aN 0 (dGR 12 21 (vR 0))) 1 (cI 3)) 2 (vI 1)) 3 (vI 2)))) (dSeq (dDo (dCall DX12_copyRow (aI (aI (aI (aR aN 0 (dGR 12 22 (vR 0))) 1 (cI 3)) 2 (vI 1)) 3 (vI 2)))) (dSeq (dDo (dCall DX12_copyRow (aI (aI (aI (aR aN 0 (dGR 12 23 (vR 0))) 1 (cI 18)) 2 (vI 1)) 3 (vI 2)))) (dSeq (dDo (dCall DX12_copyRow (aI (aI (aI (aR aN 0 (dGR 12 24 (vR 0))) 1 (cI 48)) 2 (vI 1)) 3 (vI 2)))) (dSeq (dDo (dCall DX12_copyRow (aI (aI (aI (aR aN 0 (dGR 12 25 (vR 0))) 1 (cI 80)) 2 (vI 1)) 3 (vI 2)))) dRet0))))))))))
theorem sBX12_copyPort : SS (cvoV, .return_) miX12_copyPort [] [] [] [(0, 2), (1, 0), (2, 0)] [(0, 2), (1, 0), (2, 0)] 0 [] BX12_copyPort := (t_sq (p1 := 10) (Γ' := [(0, 2), (1, 0), (2, 0)]) (t_do (x_call (ts := [(0, 2), (1, 0), (2, 0), (3, 0)]) kX12_copyRow mokX12_copyRow w8_50 rfl rfl rfl (a_I (ts := [(0, 2), (1, 0), (2, 0)]) 3 (a_I (ts := [(0, 2), (1, 0)]) 2 (a_I (ts := [(0, 2)]) 1 (a_R (ts := []) 0 a_nil (s_getR ck12 16 (by decide) rfl (s_aload_n dX12_copyPort_0 rfl rfl) dX12_copyPort_1 w6_221) rfl) (s_iconst dX12_copyPort_4 rfl) rfl) (s_iload_n dX12_copyPort_5 rfl rfl) rfl) (s_iload_n dX12_copyPort_6 rfl rfl) rfl) dX12_copyPort_7 w8_49) rfl) (t_sq (p1 := 21) (Γ' := [(0, 2), (1, 0), (2, 0)]) (t_do (x_call (ts := [(0, 2), (1, 0), (2, 0), (3, 0)]) kX12_copyRow mokX12_copyRow w8_50 rfl rfl rfl (a_I (ts := [(0, 2), (1, 0), (2, 0)]) 3 (a_I (ts := [(0, 2), (1, 0)]) 2 (a_I (ts := [(0, 2)]) 1 (a_R (ts := []) 0 a_nil (s_getR ck12 17 (by decide) rfl (s_aload_n dX12_copyPort_10 rfl rfl) dX12_copyPort_11 w6_222) rfl) (s_bipush dX12_copyPort_14 rfl) rfl) (s_iload_n dX12_copyPort_16 rfl rfl) rfl) (s_iload_n dX12_copyPort_17 rfl rfl) rfl) dX12_copyPort_18 w8_49) rfl) (t_sq (p1 := 32) (Γ' := [(0, 2), (1, 0), (2, 0)]) (t_do (x_call (ts := [(0, 2), (1, 0), (2, 0), (3, 0)]) kX12_copyRow mokX12_copyRow w8_50 rfl rfl rfl (a_I (ts := [(0, 2), (1, 0), (2, 0)]) 3 (a_I (ts := [(0, 2), (1, 0)]) 2 (a_I (ts := [(0, 2)]) 1 (a_R (ts := []) 0 a_nil (s_getR ck12 18 (by decide) rfl (s_aload_n dX12_copyPort_21 rfl rfl) dX12_copyPort_22 w6_223) rfl) (s_bipush dX12_copyPort_25 rfl) rfl) (s_iload_n dX12_copyPort_27 rfl rfl) rfl) (s_iload_n dX12_copyPort_28 rfl rfl) rfl) dX12_copyPort_29 w8_49) rfl) (t_sq (p1 := 43) (Γ' := [(0, 2), (1, 0), (2, 0)]) (t_do (x_call (ts := [(0, 2), (1, 0), (2, 0), (3, 0)]) kX12_copyRow mokX12_copyRow w8_50 rfl rfl rfl (a_I (ts := [(0, 2), (1, 0), (2, 0)]) 3 (a_I (ts := [(0, 2), (1, 0)]) 2 (a_I (ts := [(0, 2)]) 1 (a_R (ts := []) 0 a_nil (s_getR ck12 19 (by decide) rfl (s_aload_n dX12_copyPort_32 rfl rfl) dX12_copyPort_33 w6_224) rfl) (s_bipush dX12_copyPort_36 rfl) rfl) (s_iload_n dX12_copyPort_38 rfl rfl) rfl) (s_iload_n dX12_copyPort_39 rfl rfl) rfl) dX12_copyPort_40 w8_49) rfl) (t_sq (p1 := 54) (Γ' := [(0, 2), (1, 0), (2, 0)]) (t_do (x_call (ts := [(0, 2), (1, 0), (2, 0), (3, 0)]) kX12_copyRow mokX12_copyRow w8_50 rfl rfl rfl (a_I (ts := [(0, 2), (1, 0), (2, 0)]) 3 (a_I (ts := [(0, 2), (1, 0)]) 2 (a_I (ts := [(0, 2)]) 1 (a_R (ts := []) 0 a_nil (s_getR ck12 20 (by decide) rfl (s_aload_n dX12_copyPort_43 rfl rfl) dX12_copyPort_44 w6_225) rfl) (s_bipush dX12_copyPort_47 rfl) rfl) (s_iload_n dX12_copyPort_49 rfl rfl) rfl) (s_iload_n dX12_copyPort_50 rfl rfl) rfl) dX12_copyPort_51 w8_49) rfl) (t_sq (p1 := 64) (Γ' := [(0, 2), (1, 0), (2, 0)]) (t_do (x_call (ts := [(0, 2), (1, 0), (2, 0), (3, 0)]) kX12_copyRow mokX12_copyRow w8_50 rfl rfl rfl (a_I (ts := [(0, 2), (1, 0), (2, 0)]) 3 (a_I (ts := [(0, 2), (1, 0)]) 2 (a_I (ts := [(0, 2)]) 1 (a_R (ts := []) 0 a_nil (s_getR ck12 21 (by decide) rfl (s_aload_n dX12_copyPort_54 rfl rfl) dX12_copyPort_55 w6_226) rfl) (s_iconst dX12_copyPort_58 rfl) rfl) (s_iload_n dX12_copyPort_59 rfl rfl) rfl) (s_iload_n dX12_copyPort_60 rfl rfl) rfl) dX12_copyPort_61 w8_49) rfl) (t_sq (p1 := 74) (Γ' := [(0, 2), (1, 0), (2, 0)]) (t_do (x_call (ts := [(0, 2), (1, 0), (2, 0), (3, 0)]) kX12_copyRow mokX12_copyRow w8_50 rfl rfl rfl (a_I (ts := [(0, 2), (1, 0), (2, 0)]) 3 (a_I (ts := [(0, 2), (1, 0)]) 2 (a_I (ts := [(0, 2)]) 1 (a_R (ts := []) 0 a_nil (s_getR ck12 22 (by decide) rfl (s_aload_n dX12_copyPort_64 rfl rfl) dX12_copyPort_65 w6_227) rfl) (s_iconst dX12_copyPort_68 rfl) rfl) (s_iload_n dX12_copyPort_69 rfl rfl) rfl) (s_iload_n dX12_copyPort_70 rfl rfl) rfl) dX12_copyPort_71 w8_49) rfl) (t_sq (p1 := 85) (Γ' := [(0, 2), (1, 0), (2, 0)]) (t_do (x_call (ts := [(0, 2), (1, 0), (2, 0), (3, 0)]) kX12_copyRow mokX12_copyRow w8_50 rfl rfl rfl (a_I (ts := [(0, 2), (1, 0), (2, 0)]) 3 (a_I (ts := [(0, 2), (1, 0)]) 2 (a_I (ts := [(0, 2)]) 1 (a_R (ts := []) 0 a_nil (s_getR ck12 23 (by decide) rfl (s_aload_n dX12_copyPort_74 rfl rfl) dX12_copyPort_75 w6_228) rfl) (s_bipush dX12_copyPort_78 rfl) rfl) (s_iload_n dX12_copyPort_80 rfl rfl) rfl) (s_iload_n dX12_copyPort_81 rfl rfl) rfl) dX12_copyPort_82 w8_49) rfl) (t_sq (p1 := 96) (Γ' := [(0, 2), (1, 0), (2, 0)]) (t_do (x_call (ts := [(0, 2), (1, 0), (2, 0), (3, 0)]) kX12_copyRow mokX12_copyRow w8_50 rfl rfl rfl (a_I (ts := [(0, 2), (1, 0), (2, 0)]) 3 (a_I (ts := [(0, 2), (1, 0)]) 2 (a_I (ts := [(0, 2)]) 1 (a_R (ts := []) 0 a_nil (s_getR ck12 24 (by decide) rfl (s_aload_n dX12_copyPort_85 rfl rfl) dX12_copyPort_86 w6_229) rfl) (s_bipush dX12_copyPort_89 rfl) rfl) (s_iload_n dX12_copyPort_91 rfl rfl) rfl) (s_iload_n dX12_copyPort_92 rfl rfl) rfl) dX12_copyPort_93 w8_49) rfl) (t_sq (p1 := 107) (Γ' := [(0, 2), (1, 0), (2, 0)]) (t_do (x_call (ts := [(0, 2), (1, 0), (2, 0), (3, 0)]) kX12_copyRow mokX12_copyRow w8_50 rfl rfl rfl (a_I (ts := [(0, 2), (1, 0), (2, 0)]) 3 (a_I (ts := [(0, 2), (1, 0)]) 2 (a_I (ts := [(0, 2)]) 1 (a_R (ts := []) 0 a_nil (s_getR ck12 25 (by decide) rfl (s_aload_n dX12_copyPort_96 rfl rfl) dX12_copyPort_97 w6_230) rfl) (s_bipush dX12_copyPort_100 rfl) rfl) (s_iload_n dX12_copyPort_102 rfl rfl) rfl) (s_iload_n dX12_copyPort_103 rfl rfl) rfl) dX12_copyPort_104 w8_49) rfl) (t_ret0 (fun _ _ => rfl) dX12_copyPort_107)))))))))))
noncomputable def DX12_copyPort : Fr → St → Option (Unit × St) := M1 (fun f => (sI (sI (sR fr0 0 (gR f 0)) 1 (gI f 1)) 2 (gI f 2))) BX12_copyPort
theorem kX12_copyPort : SND yX12_copyPort cX12_copyPort 3 none 2 [(0, 2), (1, 0), (2, 0)] cvoV DX12_copyPort := snd_V (nw := 3) (by decide) (fun z => by cases z) rfl rfl (fun _ _ => rfl) sBX12_copyPort
theorem dX12_port_0 : decode cX12_port 0 = .ok (.aload_n 0, 1) := by decide +kernel
theorem dX12_port_1 : decode cX12_port 1 = .ok (.iconst 0, 1) := by decide +kernel
theorem dX12_port_2 : decode cX12_port 2 = .ok (.putfield 122, 3) := by decide +kernel
theorem dX12_port_5 : decode cX12_port 5 = .ok (.aload_n 0, 1) := by decide +kernel
theorem dX12_port_6 : decode cX12_port 6 = .ok (.invokevirtual 258, 3) := by decide +kernel
theorem dX12_port_9 : decode cX12_port 9 = .ok (.aload_n 0, 1) := by decide +kernel
theorem dX12_port_10 : decode cX12_port 10 = .ok (.invokevirtual 261, 3) := by decide +kernel
theorem dX12_port_13 : decode cX12_port 13 = .ok (.aload_n 0, 1) := by decide +kernel
theorem dX12_port_14 : decode cX12_port 14 = .ok (.invokevirtual 264, 3) := by decide +kernel
theorem dX12_port_17 : decode cX12_port 17 = .ok (.ifCond .eq 101, 3) := by decide +kernel
theorem dX12_port_20 : decode cX12_port 20 = .ok (.aload_n 0, 1) := by decide +kernel
theorem dX12_port_21 : decode cX12_port 21 = .ok (.getfield 163, 3) := by decide +kernel
theorem dX12_port_24 : decode cX12_port 24 = .ok (.ifCond .eq 94, 3) := by decide +kernel
theorem dX12_port_27 : decode cX12_port 27 = .ok (.aload_n 0, 1) := by decide +kernel
theorem dX12_port_28 : decode cX12_port 28 = .ok (.getfield 31, 3) := by decide +kernel
theorem dX12_port_31 : decode cX12_port 31 = .ok (.iconst 4, 1) := by decide +kernel
theorem dX12_port_32 : decode cX12_port 32 = .ok (.iaload, 1) := by decide +kernel
theorem dX12_port_33 : decode cX12_port 33 = .ok (.ifCond .ne 57, 3) := by decide +kernel
theorem dX12_port_36 : decode cX12_port 36 = .ok (.aload_n 0, 1) := by decide +kernel
theorem dX12_port_37 : decode cX12_port 37 = .ok (.ldc2_w 268, 3) := by decide +kernel
theorem dX12_port_40 : decode cX12_port 40 = .ok (.invokevirtual 193, 3) := by decide +kernel
theorem dX12_port_43 : decode cX12_port 43 = .ok (.aload_n 0, 1) := by decide +kernel
theorem dX12_port_44 : decode cX12_port 44 = .ok (.iconst 0, 1) := by decide +kernel
theorem dX12_port_45 : decode cX12_port 45 = .ok (.aload_n 0, 1) := by decide +kernel
theorem dX12_port_46 : decode cX12_port 46 = .ok (.ldc2_w 270, 3) := by decide +kernel
theorem dX12_port_49 : decode cX12_port 49 = .ok (.iconst 1, 1) := by decide +kernel
theorem dX12_port_50 : decode cX12_port 50 = .ok (.bipush 12, 2) := by decide +kernel
theorem dX12_port_52 : decode cX12_port 52 = .ok (.invokevirtual 208, 3) := by decide +kernel
theorem dX12_port_55 : decode cX12_port 55 = .ok (.invokevirtual 215, 3) := by decide +kernel
theorem dX12_port_58 : decode cX12_port 58 = .ok (.aload_n 0, 1) := by decide +kernel
theorem dX12_port_59 : decode cX12_port 59 = .ok (.iconst 1, 1) := by decide +kernel
theorem dX12_port_60 : decode cX12_port 60 = .ok (.aload_n 0, 1) := by decide +kernel
theorem dX12_port_61 : decode cX12_port 61 = .ok (.ldc2_w 272, 3) := by decide +kernel
theorem dX12_port_64 : decode cX12_port 64 = .ok (.iconst 0, 1) := by decide +kernel
theorem dX12_port_65 : decode cX12_port 65 = .ok (.iconst 3, 1) := by decide +kernel
theorem dX12_port_66 : decode cX12_port 66 = .ok (.invokevirtual 208, 3) := by decide +kernel
theorem dX12_port_69 : decode cX12_port 69 = .ok (.invokevirtual 215, 3) := by decide +kernel
theorem dX12_port_72 : decode cX12_port 72 = .ok (.aload_n 0, 1) := by decide +kernel
theorem dX12_port_73 : decode cX12_port 73 = .ok (.iconst 2, 1) := by decide +kernel
theorem dX12_port_74 : decode cX12_port 74 = .ok (.aload_n 0, 1) := by decide +kernel
theorem dX12_port_75 : decode cX12_port 75 = .ok (.ldc2_w 274, 3) := by decide +kernel
theorem dX12_port_78 : decode cX12_port 78 = .ok (.iconst 0, 1) := by decide +kernel
theorem dX12_port_79 : decode cX12_port 79 = .ok (.bipush 10, 2) := by decide +kernel
theorem dX12_port_81 : decode cX12_port 81 = .ok (.invokevirtual 208, 3) := by decide +kernel
theorem dX12_port_84 : decode cX12_port 84 = .ok (.invokevirtual 215, 3) := by decide +kernel
theorem dX12_port_87 : decode cX12_port 87 = .ok (.goto 7, 3) := by decide +kernel
theorem dX12_port_90 : decode cX12_port 90 = .ok (.aload_n 0, 1) := by decide +kernel
theorem dX12_port_91 : decode cX12_port 91 = .ok (.invokevirtual 276, 3) := by decide +kernel
theorem dX12_port_94 : decode cX12_port 94 = .ok (.aload_n 0, 1) := by decide +kernel
theorem dX12_port_95 : decode cX12_port 95 = .ok (.invokevirtual 264, 3) := by decide +kernel
theorem dX12_port_98 : decode cX12_port 98 = .ok (.ifCond .eq 7, 3) := by decide +kernel
theorem dX12_port_101 : decode cX12_port 101 = .ok (.aload_n 0, 1) := by decide +kernel
theorem dX12_port_102 : decode cX12_port 102 = .ok (.invokevirtual 279, 3) := by decide +kernel
theorem dX12_port_105 : decode cX12_port 105 = .ok (.aload_n 0, 1) := by decide +kernel
theorem dX12_port_106 : decode cX12_port 106 = .ok (.getfield 31, 3) := by decide +kernel
theorem dX12_port_109 : decode cX12_port 109 = .ok (.iconst 4, 1) := by decide +kernel
theorem dX12_port_110 : decode cX12_port 110 = .ok (.dup2, 1) := by decide +kernel
theorem dX12_port_111 : decode cX12_port 111 = .ok (.iaload, 1) := by decide +kernel
theorem dX12_port_112 : decode cX12_port 112 = .ok (.iconst 1, 1) := by decide +kernel
theorem dX12_port_113 : decode cX12_port 113 = .ok (.iadd, 1) := by decide +kernel
theorem dX12_port_114 : decode cX12_port 114 = .ok (.iastore, 1) := by decide +kernel
theorem dX12_port_115 : decode cX12_port 115 = .ok (.goto (-102), 3) := by decide +kernel
theorem dX12_port_118 : decode cX12_port 118 = .ok (.aload_n 0, 1) := by decide +kernel
theorem dX12_port_119 : decode cX12_port 119 = .ok (.invokevirtual 282, 3) := by decide +kernel
theorem dX12_port_122 : decode cX12_port 122 = .ok (.aload_n 0, 1) := by decide +kernel
theorem dX12_port_123 : decode cX12_port 123 = .ok (.getfield 174, 3) := by decide +kernel
theorem dX12_port_126 : decode cX12_port 126 = .ok (.ifCond .eq 6, 3) := by decide +kernel
theorem dX12_port_129 : decode cX12_port 129 = .ok (.bipush (-4), 2) := by decide +kernel
theorem dX12_port_131 : decode cX12_port 131 = .ok (.ireturn, 1) := by decide +kernel
theorem dX12_port_132 : decode cX12_port 132 = .ok (.aload_n 0, 1) := by decide +kernel
theorem dX12_port_133 : decode cX12_port 133 = .ok (.iconst 4, 1) := by decide +kernel
theorem dX12_port_134 : decode cX12_port 134 = .ok (.iconst 0, 1) := by decide +kernel
theorem dX12_port_135 : decode cX12_port 135 = .ok (.invokevirtual 285, 3) := by decide +kernel
theorem dX12_port_138 : decode cX12_port 138 = .ok (.aload_n 0, 1) := by decide +kernel
theorem dX12_port_139 : decode cX12_port 139 = .ok (.getfield 31, 3) := by decide +kernel
theorem dX12_port_142 : decode cX12_port 142 = .ok (.iconst 0, 1) := by decide +kernel
theorem dX12_port_143 : decode cX12_port 143 = .ok (.iaload, 1) := by decide +kernel
theorem dX12_port_144 : decode cX12_port 144 = .ok (.ireturn, 1) := by decide +kernel
theorem mokX12_port : MOK yX12_port cX12_port 1 (some .int) 0 := ⟨w7_173, w1_13, ⟨by decide, by decide⟩, by decide +kernel, by decide⟩
abbrev miX12_port : MI := (yX12_port.cls, cX12_port, 1, 9, false)
noncomputable def LX12_port_1 : Sm Int32 := dLoop (fun f => (sR fr0 0 (gR f 0))) (dAnd (dCZ q_ne (dCallV 12 DX12_isGood (aR aN 0 (vR 0)))) (dCZ q_ne (dGI 12 8 (vR 0)))) (dSeq (dIf (dCZ q_eq (dAI (dGR 12 16 (vR 0)) (cI 4))) (dSeq (dDo (dCallV 12 DX12_asks (aL (aR aN 0 (vR 0)) 1 (cL 326369)))) (dSeq (dDo (dCallV 12 DX12_tellsOf (aI (aI (aR aN 0 (vR 0)) 1 (cI 0)) 2 (dCallV 12 DX12_number_ (aI (aI (aL (aR aN 0 (vR 0)) 1 (cL 80155)) 3 (cI 1)) 4 (cI 12)))))) (dSeq (dDo (dCallV 12 DX12_tellsOf (aI (aI (aR aN 0 (vR 0)) 1 (cI 1)) 2 (dCallV 12 DX12_number_ (aI (aI (aL (aR aN 0 (vR 0)) 1 (cL 8798)) 3 (cI 0)) 4 (cI 3)))))) (dDo (dCallV 12 DX12_tellsOf (aI (aI (aR aN 0 (vR 0)) 1 (cI 2)) 2 (dCallV 12 DX12_number_ (aI (aI (aL (aR aN 0 (vR 0)) 1 (cL 298288)) 3 (cI 0)) 4 (cI 10))))))))) (dDo (dCallV 12 DX12_lineHere (aR aN 0 (vR 0))))) (dSeq (dIf (dCZ q_ne (dCallV 12 DX12_isGood (aR aN 0 (vR 0)))) (dDo (dCallV 12 DX12_ends (aR aN 0 (vR 0)))) dSkip) (dUA o_iadd (dGR 12 16 (vR 0)) (cI 4) (cI 1)))) dSkip
theorem sLX12_port_1 {ΓL : Gm} {PB PK : List Nat} : SS (cvoI, .ireturn) miX12_port ΓL PB PK [(0, 2)] [(0, 2)] 13 [118] LX12_port_1 := t_loop (pT := 27) (pF := 118) (pu := 13) (PB' := []) (PK' := []) (XB := [115]) (XU := [13]) (fun _ _ => rfl) rfl (c_and (p1 := 20) (pT := 27) (pF := 118) (c_ne_ZF (pF := 118) (s_of_xI (x_callV (ts := [(0, 2)]) ck12 rfl kX12_isGood mokX12_isGood w7_201 ps3_13 rfl rfl rfl rfl (a_R (ts := []) 0 a_nil (s_aload_n dX12_port_13 rfl rfl) rfl) dX12_port_14 w7_199)) dX12_port_17 rfl) (c_ne_ZF (pF := 118) (s_getI ck12 8 (by decide) rfl (s_aload_n dX12_port_20 rfl rfl) dX12_port_21 w6_213) dX12_port_24 rfl)) (t_sq (p1 := 94) (Γ' := [(0, 2)]) (t_if (pT := 36) (pF := 90) (X := [94]) (XA := [87]) (XB := [94]) (c_eq_ZF (pF := 90) (s_dAI (s_getR ck12 16 (by decide) rfl (s_aload_n dX12_port_27 rfl rfl) dX12_port_28 w6_221) (s_iconst dX12_port_31 rfl) dX12_port_32) dX12_port_33 rfl) (t_sq (p1 := 43) (Γ' := [(0, 2)]) (t_do (x_callV (ts := [(0, 2), (1, 1)]) ck12 rfl kX12_asks mokX12_asks w7_206 ps3_14 rfl rfl rfl rfl (a_L (ts := [(0, 2)]) 1 (a_R (ts := []) 0 a_nil (s_aload_n dX12_port_36 rfl rfl) rfl) (s_ldc2 dX12_port_37 w7_203) rfl) dX12_port_40 w7_204) rfl) (t_sq (p1 := 58) (Γ' := [(0, 2)]) (t_do (x_callV (ts := [(0, 2), (1, 0), (2, 0)]) ck12 rfl kX12_tellsOf mokX12_tellsOf w7_180 ps3_9 rfl rfl rfl rfl (a_I (ts := [(0, 2), (1, 0)]) 2 (a_I (ts := [(0, 2)]) 1 (a_R (ts := []) 0 a_nil (s_aload_n dX12_port_43 rfl rfl) rfl) (s_iconst dX12_port_44 rfl) rfl) (s_of_xI (x_callV (ts := [(0, 2), (1, 1), (3, 0), (4, 0)]) ck12 rfl kX12_number_ mokX12_number_ w7_223 ps4_2 rfl rfl rfl rfl (a_I (ts := [(0, 2), (1, 1), (3, 0)]) 4 (a_I (ts := [(0, 2), (1, 1)]) 3 (a_L (ts := [(0, 2)]) 1 (a_R (ts := []) 0 a_nil (s_aload_n dX12_port_45 rfl rfl) rfl) (s_ldc2 dX12_port_46 w7_220) rfl) (s_iconst dX12_port_49 rfl) rfl) (s_bipush dX12_port_50 rfl) rfl) dX12_port_52 w7_221)) rfl) dX12_port_55 w7_178) rfl) (t_sq (p1 := 72) (Γ' := [(0, 2)]) (t_do (x_callV (ts := [(0, 2), (1, 0), (2, 0)]) ck12 rfl kX12_tellsOf mokX12_tellsOf w7_180 ps3_9 rfl rfl rfl rfl (a_I (ts := [(0, 2), (1, 0)]) 2 (a_I (ts := [(0, 2)]) 1 (a_R (ts := []) 0 a_nil (s_aload_n dX12_port_58 rfl rfl) rfl) (s_iconst dX12_port_59 rfl) rfl) (s_of_xI (x_callV (ts := [(0, 2), (1, 1), (3, 0), (4, 0)]) ck12 rfl kX12_number_ mokX12_number_ w7_223 ps4_2 rfl rfl rfl rfl (a_I (ts := [(0, 2), (1, 1), (3, 0)]) 4 (a_I (ts := [(0, 2), (1, 1)]) 3 (a_L (ts := [(0, 2)]) 1 (a_R (ts := []) 0 a_nil (s_aload_n dX12_port_60 rfl rfl) rfl) (s_ldc2 dX12_port_61 w7_229) rfl) (s_iconst dX12_port_64 rfl) rfl) (s_iconst dX12_port_65 rfl) rfl) dX12_port_66 w7_221)) rfl) dX12_port_69 w7_178) rfl) (t_do (x_callV (ts := [(0, 2), (1, 0), (2, 0)]) ck12 rfl kX12_tellsOf mokX12_tellsOf w7_180 ps3_9 rfl rfl rfl rfl (a_I (ts := [(0, 2), (1, 0)]) 2 (a_I (ts := [(0, 2)]) 1 (a_R (ts := []) 0 a_nil (s_aload_n dX12_port_72 rfl rfl) rfl) (s_iconst dX12_port_73 rfl) rfl) (s_of_xI (x_callV (ts := [(0, 2), (1, 1), (3, 0), (4, 0)]) ck12 rfl kX12_number_ mokX12_number_ w7_223 ps4_2 rfl rfl rfl rfl (a_I (ts := [(0, 2), (1, 1), (3, 0)]) 4 (a_I (ts := [(0, 2), (1, 1)]) 3 (a_L (ts := [(0, 2)]) 1 (a_R (ts := []) 0 a_nil (s_aload_n dX12_port_74 rfl rfl) rfl) (s_ldc2 dX12_port_75 w7_230) rfl) (s_iconst dX12_port_78 rfl) rfl) (s_bipush dX12_port_79 rfl) rfl) dX12_port_81 w7_221)) rfl) dX12_port_84 w7_178) rfl)))) (t_do (x_callV (ts := [(0, 2)]) ck12 rfl kX12_lineHere mokX12_lineHere w7_233 ps4_4 rfl rfl rfl rfl (a_R (ts := []) 0 a_nil (s_aload_n dX12_port_90 rfl rfl) rfl) dX12_port_91 w7_231) rfl) (lda_cons (ld_goto (y := 94) dX12_port_87 rfl (ld_in rfl)) lda_nil) (lda_cons (ld_in rfl) lda_nil)) (t_sq (p1 := 105) (Γ' := [(0, 2)]) (t_if (pT := 101) (pF := 105) (X := [105]) (XA := [105]) (XB := [105]) (c_ne_ZF (pF := 105) (s_of_xI (x_callV (ts := [(0, 2)]) ck12 rfl kX12_isGood mokX12_isGood w7_201 ps3_13 rfl rfl rfl rfl (a_R (ts := []) 0 a_nil (s_aload_n dX12_port_94 rfl rfl) rfl) dX12_port_95 w7_199)) dX12_port_98 rfl) (t_do (x_callV (ts := [(0, 2)]) ck12 rfl kX12_ends mokX12_ends w8_39 ps4_13 rfl rfl rfl rfl (a_R (ts := []) 0 a_nil (s_aload_n dX12_port_101 rfl rfl) rfl) dX12_port_102 w8_37) rfl) (t_skip (ld_in rfl) rfl) (lda_cons (ld_in rfl) lda_nil) (lda_cons (ld_in rfl) lda_nil)) (t_UA (s_getR ck12 16 (by decide) rfl (s_aload_n dX12_port_105 rfl rfl) dX12_port_106 w6_221) (s_iconst dX12_port_109 rfl) dX12_port_110 dX12_port_111 (s_iconst dX12_port_112 rfl) (fun _ _ _ _ => rulI fun a b K => lv_iadd a b dX12_port_113 K) dX12_port_114 rfl))) (t_skip (ld_in rfl) rfl) (lda_cons (ld_goto (y := 13) dX12_port_115 rfl (ld_in rfl)) lda_nil) lda_nil (lda_cons (ld_in rfl) lda_nil) (ld_in rfl) lda_nil
noncomputable def BX12_port : Sm Int32 := (dSeq (dP (fI 12 0) (vR 0) (cI 0)) (dSeq (dDo (dCallV 12 DX12_clears (aR aN 0 (vR 0)))) (dSeq (dDo (dCallV 12 DX12_begins (aR aN 0 (vR 0)))) (dSeq LX12_port_1 (dSeq (dDo (dCallV 12 DX12_isOver (aR aN 0 (vR 0)))) (dSeq (dIf (dCZ q_ne (dGI 12 12 (vR 0))) (dRet (cI (-4))) dSkip) (dSeq (dDo (dCallV 12 DX12_copyPort (aI (aI (aR aN 0 (vR 0)) 1 (cI 4)) 2 (cI 0)))) (dRet (dAI (dGR 12 16 (vR 0)) (cI 0))))))))))
theorem sBX12_port : SS (cvoI, .ireturn) miX12_port [] [] [] [(0, 2)] [(0, 2)] 0 [] BX12_port := (t_sq (p1 := 5) (Γ' := [(0, 2)]) (t_pI ck12 0 (by decide) rfl (Or.inl rfl) (s_aload_n dX12_port_0 rfl rfl) (s_iconst dX12_port_1 rfl) dX12_port_2 w6_205 rfl) (t_sq (p1 := 9) (Γ' := [(0, 2)]) (t_do (x_callV (ts := [(0, 2)]) ck12 rfl kX12_clears mokX12_clears w7_176 ps3_8 rfl rfl rfl rfl (a_R (ts := []) 0 a_nil (s_aload_n dX12_port_5 rfl rfl) rfl) dX12_port_6 w7_174) rfl) (t_sq (p1 := 13) (Γ' := [(0, 2)]) (t_do (x_callV (ts := [(0, 2)]) ck12 rfl kX12_begins mokX12_begins w7_184 ps3_10 rfl rfl rfl rfl (a_R (ts := []) 0 a_nil (s_aload_n dX12_port_9 rfl rfl) rfl) dX12_port_10 w7_182) rfl) (t_sq (p1 := 118) (Γ' := [(0, 2)]) (tn_to (Γ' := [(0, 2)]) (XA := [118]) sLX12_port_1 (lda_cons (ld_in rfl) lda_nil) rfl) (t_sq (p1 := 122) (Γ' := [(0, 2)]) (t_do (x_callV (ts := [(0, 2)]) ck12 rfl kX12_isOver mokX12_isOver w8_43 ps4_14 rfl rfl rfl rfl (a_R (ts := []) 0 a_nil (s_aload_n dX12_port_118 rfl rfl) rfl) dX12_port_119 w8_41) rfl) (t_sq (p1 := 132) (Γ' := [(0, 2)]) (t_if (pT := 129) (pF := 132) (X := [132]) (XA := []) (XB := [132]) (c_ne_ZF (pF := 132) (s_getI ck12 12 (by decide) rfl (s_aload_n dX12_port_122 rfl rfl) dX12_port_123 w6_217) dX12_port_126 rfl) (t_ret (cv := cvI) (fun _ _ => rfl) (s_bipush dX12_port_129 rfl) dX12_port_131) (t_skip (ld_in rfl) rfl) lda_nil (lda_cons (ld_in rfl) lda_nil)) (t_sq (p1 := 138) (Γ' := [(0, 2)]) (t_do (x_callV (ts := [(0, 2), (1, 0), (2, 0)]) ck12 rfl kX12_copyPort mokX12_copyPort w8_47 ps4_15 rfl rfl rfl rfl (a_I (ts := [(0, 2), (1, 0)]) 2 (a_I (ts := [(0, 2)]) 1 (a_R (ts := []) 0 a_nil (s_aload_n dX12_port_132 rfl rfl) rfl) (s_iconst dX12_port_133 rfl) rfl) (s_iconst dX12_port_134 rfl) rfl) dX12_port_135 w8_45) rfl) (t_ret (cv := cvI) (fun _ _ => rfl) (s_dAI (s_getR ck12 16 (by decide) rfl (s_aload_n dX12_port_138 rfl rfl) dX12_port_139 w6_221) (s_iconst dX12_port_142 rfl) dX12_port_143) dX12_port_144))))))))
noncomputable def DX12_port : Fr → St → Option (Int32 × St) := M1 (fun f => (sR fr0 0 (gR f 0))) BX12_port
theorem kX12_port : SND yX12_port cX12_port 1 (some .int) 9 [(0, 2)] cvoI DX12_port := snd_I (nw := 1) (by decide) rfl rfl (fun _ _ => rfl) sBX12_port
theorem dX12_isPort_0 : decode cX12_isPort 0 = .ok (.aload_n 0, 1) := by decide +kernel
theorem dX12_isPort_1 : decode cX12_isPort 1 = .ok (.getfield 31, 3) := by decide +kernel
theorem dX12_isPort_4 : decode cX12_isPort 4 = .ok (.iconst 0, 1) := by decide +kernel
theorem dX12_isPort_5 : decode cX12_isPort 5 = .ok (.iaload, 1) := by decide +kernel
theorem dX12_isPort_6 : decode cX12_isPort 6 = .ok (.ifCond .le 7, 3) := by decide +kernel
theorem dX12_isPort_9 : decode cX12_isPort 9 = .ok (.iconst 1, 1) := by decide +kernel
theorem dX12_isPort_10 : decode cX12_isPort 10 = .ok (.goto 4, 3) := by decide +kernel
theorem dX12_isPort_13 : decode cX12_isPort 13 = .ok (.iconst 0, 1) := by decide +kernel
theorem dX12_isPort_14 : decode cX12_isPort 14 = .ok (.ireturn, 1) := by decide +kernel
theorem mokX12_isPort : MOK yX12_isPort cX12_isPort 1 (some .boolean) 0 := ⟨w8_133, w1_13, ⟨by decide, by decide⟩, by decide +kernel, by decide⟩
abbrev miX12_isPort : MI := (yX12_isPort.cls, cX12_isPort, 1, 1, false)
noncomputable def BX12_isPort : Sm Int32 := (dRet (dB (dCZ q_gt (dAI (dGR 12 16 (vR 0)) (cI 0)))))
theorem sBX12_isPort : SS (cvoI, .ireturn) miX12_isPort [] [] [] [(0, 2)] [(0, 2)] 0 [] BX12_isPort := (t_ret (cv := cvI) (fun _ _ => rfl) (s_B (pT := 9) (pF := 13) (pe := 14) (c_gt_ZF (pF := 13) (s_dAI (s_getR ck12 16 (by decide) rfl (s_aload_n dX12_isPort_0 rfl rfl) dX12_isPort_1 w6_221) (s_iconst dX12_isPort_4 rfl) dX12_isPort_5) dX12_isPort_6 rfl) dX12_isPort_9 dX12_isPort_10 rfl dX12_isPort_13 rfl) dX12_isPort_14)
noncomputable def DX12_isPort : Fr → St → Option (Int32 × St) := MZ (fun f => (sR fr0 0 (gR f 0))) BX12_isPort
theorem kX12_isPort : SND yX12_isPort cX12_isPort 1 (some .boolean) 1 [(0, 2)] cvoI DX12_isPort := snd_Z (nw := 1) (by decide) rfl rfl (fun _ _ => rfl) sBX12_isPort
theorem dX12_days_0 : decode cX12_days 0 = .ok (.aload_n 0, 1) := by decide +kernel
theorem dX12_days_1 : decode cX12_days 1 = .ok (.getfield 34, 3) := by decide +kernel
theorem dX12_days_4 : decode cX12_days 4 = .ok (.iconst 0, 1) := by decide +kernel
theorem dX12_days_5 : decode cX12_days 5 = .ok (.iaload, 1) := by decide +kernel
theorem dX12_days_6 : decode cX12_days 6 = .ok (.ireturn, 1) := by decide +kernel
theorem mokX12_days : MOK yX12_days cX12_days 1 (some .int) 0 := ⟨w8_137, w1_13, ⟨by decide, by decide⟩, by decide +kernel, by decide⟩
abbrev miX12_days : MI := (yX12_days.cls, cX12_days, 1, 1, false)
noncomputable def BX12_days : Sm Int32 := (dRet (dAI (dGR 12 17 (vR 0)) (cI 0)))
theorem sBX12_days : SS (cvoI, .ireturn) miX12_days [] [] [] [(0, 2)] [(0, 2)] 0 [] BX12_days := (t_ret (cv := cvI) (fun _ _ => rfl) (s_dAI (s_getR ck12 17 (by decide) rfl (s_aload_n dX12_days_0 rfl rfl) dX12_days_1 w6_222) (s_iconst dX12_days_4 rfl) dX12_days_5) dX12_days_6)
noncomputable def DX12_days : Fr → St → Option (Int32 × St) := M1 (fun f => (sR fr0 0 (gR f 0))) BX12_days
theorem kX12_days : SND yX12_days cX12_days 1 (some .int) 1 [(0, 2)] cvoI DX12_days := snd_I (nw := 1) (by decide) rfl rfl (fun _ _ => rfl) sBX12_days
theorem dX12_isCarrier_0 : decode cX12_isCarrier 0 = .ok (.iload_n 1, 1) := by decide +kernel
theorem dX12_isCarrier_1 : decode cX12_isCarrier 1 = .ok (.i2l, 1) := by decide +kernel
theorem dX12_isCarrier_2 : decode cX12_isCarrier 2 = .ok (.lconst 0, 1) := by decide +kernel
theorem dX12_isCarrier_3 : decode cX12_isCarrier 3 = .ok (.aload_n 0, 1) := by decide +kernel
theorem dX12_isCarrier_4 : decode cX12_isCarrier 4 = .ok (.invokevirtual 295, 3) := by decide +kernel
theorem dX12_isCarrier_7 : decode cX12_isCarrier 7 = .ok (.i2l, 1) := by decide +kernel
theorem dX12_isCarrier_8 : decode cX12_isCarrier 8 = .ok (.lconst 1, 1) := by decide +kernel
theorem dX12_isCarrier_9 : decode cX12_isCarrier 9 = .ok (.lsub, 1) := by decide +kernel
theorem dX12_isCarrier_10 : decode cX12_isCarrier 10 = .ok (.invokestatic 127, 3) := by decide +kernel
theorem dX12_isCarrier_13 : decode cX12_isCarrier 13 = .ok (.ireturn, 1) := by decide +kernel
theorem mokX12_isCarrier : MOK yX12_isCarrier cX12_isCarrier 2 (some .boolean) 1 := ⟨w8_71, w1_13, ⟨by decide, by decide⟩, by decide +kernel, by decide⟩
abbrev miX12_isCarrier : MI := (yX12_isCarrier.cls, cX12_isCarrier, 2, 2, false)
noncomputable def BX12_isCarrier : Sm Int32 := (dRet (dCall DX12_in (aL (aL (aL aN 0 (d1 o_i2l (vI 1))) 2 (cL 0)) 4 (d2 o_lsub (d1 o_i2l (dCallV 12 DX12_carriers (aR aN 0 (vR 0)))) (cL 1)))))
theorem sBX12_isCarrier : SS (cvoI, .ireturn) miX12_isCarrier [] [] [] [(0, 2), (1, 0)] [(0, 2), (1, 0)] 0 [] BX12_isCarrier := (t_ret (cv := cvI) (fun _ _ => rfl) (s_of_xI (x_call (ts := [(0, 1), (2, 1), (4, 1)]) kX12_in mokX12_in w7_141 rfl rfl rfl (a_L (ts := [(0, 1), (2, 1)]) 4 (a_L (ts := [(0, 1)]) 2 (a_L (ts := []) 0 a_nil (s_i2l (s_iload_n dX12_isCarrier_0 rfl rfl) dX12_isCarrier_1) rfl) (s_lconst dX12_isCarrier_2 rfl) rfl) (s_lsub (s_i2l (s_of_xI (x_callV (ts := [(0, 2)]) ck12 rfl kX12_carriers mokX12_carriers w8_74 ps5_3 rfl rfl rfl rfl (a_R (ts := []) 0 a_nil (s_aload_n dX12_isCarrier_3 rfl rfl) rfl) dX12_isCarrier_4 w8_72)) dX12_isCarrier_7) (s_lconst dX12_isCarrier_8 rfl) dX12_isCarrier_9) rfl) dX12_isCarrier_10 w7_140)) dX12_isCarrier_13)
noncomputable def DX12_isCarrier : Fr → St → Option (Int32 × St) := MZ (fun f => (sI (sR fr0 0 (gR f 0)) 1 (gI f 1))) BX12_isCarrier
theorem kX12_isCarrier : SND yX12_isCarrier cX12_isCarrier 2 (some .boolean) 2 [(0, 2), (1, 0)] cvoI DX12_isCarrier := snd_Z (nw := 2) (by decide) rfl rfl (fun _ _ => rfl) sBX12_isCarrier
theorem dX12_isDay_0 : decode cX12_isDay 0 = .ok (.aload_n 0, 1) := by decide +kernel
theorem dX12_isDay_1 : decode cX12_isDay 1 = .ok (.invokevirtual 301, 3) := by decide +kernel
theorem dX12_isDay_4 : decode cX12_isDay 4 = .ok (.ifCond .eq 20, 3) := by decide +kernel
theorem dX12_isDay_7 : decode cX12_isDay 7 = .ok (.lload_n 1, 1) := by decide +kernel
theorem dX12_isDay_8 : decode cX12_isDay 8 = .ok (.lconst 0, 1) := by decide +kernel
theorem dX12_isDay_9 : decode cX12_isDay 9 = .ok (.aload_n 0, 1) := by decide +kernel
theorem dX12_isDay_10 : decode cX12_isDay 10 = .ok (.invokevirtual 304, 3) := by decide +kernel
theorem dX12_isDay_13 : decode cX12_isDay 13 = .ok (.i2l, 1) := by decide +kernel
theorem dX12_isDay_14 : decode cX12_isDay 14 = .ok (.invokestatic 127, 3) := by decide +kernel
theorem dX12_isDay_17 : decode cX12_isDay 17 = .ok (.ifCond .eq 7, 3) := by decide +kernel
theorem dX12_isDay_20 : decode cX12_isDay 20 = .ok (.iconst 1, 1) := by decide +kernel
theorem dX12_isDay_21 : decode cX12_isDay 21 = .ok (.goto 4, 3) := by decide +kernel
theorem dX12_isDay_24 : decode cX12_isDay 24 = .ok (.iconst 0, 1) := by decide +kernel
theorem dX12_isDay_25 : decode cX12_isDay 25 = .ok (.ireturn, 1) := by decide +kernel
theorem mokX12_isDay : MOK yX12_isDay cX12_isDay 3 (some .boolean) 1 := ⟨w8_129, w1_13, ⟨by decide, by decide⟩, by decide +kernel, by decide⟩
abbrev miX12_isDay : MI := (yX12_isDay.cls, cX12_isDay, 3, 2, false)
noncomputable def BX12_isDay : Sm Int32 := (dRet (dB (dAnd (dCZ q_ne (dCallV 12 DX12_isPort (aR aN 0 (vR 0)))) (dCZ q_ne (dCall DX12_in (aL (aL (aL aN 0 (vL 1)) 2 (cL 0)) 4 (d1 o_i2l (dCallV 12 DX12_days (aR aN 0 (vR 0))))))))))
theorem sBX12_isDay : SS (cvoI, .ireturn) miX12_isDay [] [] [] [(0, 2), (1, 1)] [(0, 2), (1, 1)] 0 [] BX12_isDay := (t_ret (cv := cvI) (fun _ _ => rfl) (s_B (pT := 20) (pF := 24) (pe := 25) (c_and (p1 := 7) (pT := 20) (pF := 24) (c_ne_ZF (pF := 24) (s_of_xI (x_callV (ts := [(0, 2)]) ck12 rfl kX12_isPort mokX12_isPort w8_132 ps5_11 rfl rfl rfl rfl (a_R (ts := []) 0 a_nil (s_aload_n dX12_isDay_0 rfl rfl) rfl) dX12_isDay_1 w8_130)) dX12_isDay_4 rfl) (c_ne_ZF (pF := 24) (s_of_xI (x_call (ts := [(0, 1), (2, 1), (4, 1)]) kX12_in mokX12_in w7_141 rfl rfl rfl (a_L (ts := [(0, 1), (2, 1)]) 4 (a_L (ts := [(0, 1)]) 2 (a_L (ts := []) 0 a_nil (s_lload_n dX12_isDay_7 rfl rfl) rfl) (s_lconst dX12_isDay_8 rfl) rfl) (s_i2l (s_of_xI (x_callV (ts := [(0, 2)]) ck12 rfl kX12_days mokX12_days w8_136 ps5_12 rfl rfl rfl rfl (a_R (ts := []) 0 a_nil (s_aload_n dX12_isDay_9 rfl rfl) rfl) dX12_isDay_10 w8_134)) dX12_isDay_13) rfl) dX12_isDay_14 w7_140)) dX12_isDay_17 rfl)) dX12_isDay_20 dX12_isDay_21 rfl dX12_isDay_24 rfl) dX12_isDay_25)
noncomputable def DX12_isDay : Fr → St → Option (Int32 × St) := MZ (fun f => (sL (sR fr0 0 (gR f 0)) 1 (gL f 1))) BX12_isDay
theorem kX12_isDay : SND yX12_isDay cX12_isDay 3 (some .boolean) 2 [(0, 2), (1, 1)] cvoI DX12_isDay := snd_Z (nw := 3) (by decide) rfl rfl (fun _ _ => rfl) sBX12_isDay
theorem dX12_isAhead_0 : decode cX12_isAhead 0 = .ok (.iload_n 1, 1) := by decide +kernel
theorem dX12_isAhead_1 : decode cX12_isAhead 1 = .ok (.i2l, 1) := by decide +kernel
theorem dX12_isAhead_2 : decode cX12_isAhead 2 = .ok (.lconst 0, 1) := by decide +kernel
theorem dX12_isAhead_3 : decode cX12_isAhead 3 = .ok (.aload_n 0, 1) := by decide +kernel
theorem dX12_isAhead_4 : decode cX12_isAhead 4 = .ok (.invokevirtual 304, 3) := by decide +kernel
theorem dX12_isAhead_7 : decode cX12_isAhead 7 = .ok (.i2l, 1) := by decide +kernel
theorem dX12_isAhead_8 : decode cX12_isAhead 8 = .ok (.lconst 1, 1) := by decide +kernel
theorem dX12_isAhead_9 : decode cX12_isAhead 9 = .ok (.lsub, 1) := by decide +kernel
theorem dX12_isAhead_10 : decode cX12_isAhead 10 = .ok (.invokestatic 127, 3) := by decide +kernel
theorem dX12_isAhead_13 : decode cX12_isAhead 13 = .ok (.ireturn, 1) := by decide +kernel
theorem mokX12_isAhead : MOK yX12_isAhead cX12_isAhead 2 (some .boolean) 1 := ⟨w8_233, w1_13, ⟨by decide, by decide⟩, by decide +kernel, by decide⟩
abbrev miX12_isAhead : MI := (yX12_isAhead.cls, cX12_isAhead, 2, 2, false)
noncomputable def BX12_isAhead : Sm Int32 := (dRet (dCall DX12_in (aL (aL (aL aN 0 (d1 o_i2l (vI 1))) 2 (cL 0)) 4 (d2 o_lsub (d1 o_i2l (dCallV 12 DX12_days (aR aN 0 (vR 0)))) (cL 1)))))
theorem sBX12_isAhead : SS (cvoI, .ireturn) miX12_isAhead [] [] [] [(0, 2), (1, 0)] [(0, 2), (1, 0)] 0 [] BX12_isAhead := (t_ret (cv := cvI) (fun _ _ => rfl) (s_of_xI (x_call (ts := [(0, 1), (2, 1), (4, 1)]) kX12_in mokX12_in w7_141 rfl rfl rfl (a_L (ts := [(0, 1), (2, 1)]) 4 (a_L (ts := [(0, 1)]) 2 (a_L (ts := []) 0 a_nil (s_i2l (s_iload_n dX12_isAhead_0 rfl rfl) dX12_isAhead_1) rfl) (s_lconst dX12_isAhead_2 rfl) rfl) (s_lsub (s_i2l (s_of_xI (x_callV (ts := [(0, 2)]) ck12 rfl kX12_days mokX12_days w8_136 ps5_12 rfl rfl rfl rfl (a_R (ts := []) 0 a_nil (s_aload_n dX12_isAhead_3 rfl rfl) rfl) dX12_isAhead_4 w8_134)) dX12_isAhead_7) (s_lconst dX12_isAhead_8 rfl) dX12_isAhead_9) rfl) dX12_isAhead_10 w7_140)) dX12_isAhead_13)
noncomputable def DX12_isAhead : Fr → St → Option (Int32 × St) := MZ (fun f => (sI (sR fr0 0 (gR f 0)) 1 (gI f 1))) BX12_isAhead
theorem kX12_isAhead : SND yX12_isAhead cX12_isAhead 2 (some .boolean) 2 [(0, 2), (1, 0)] cvoI DX12_isAhead := snd_Z (nw := 2) (by decide) rfl rfl (fun _ _ => rfl) sBX12_isAhead
theorem dX12_areTwo_0 : decode cX12_areTwo 0 = .ok (.aload_n 0, 1) := by decide +kernel
theorem dX12_areTwo_1 : decode cX12_areTwo 1 = .ok (.iload_n 1, 1) := by decide +kernel
theorem dX12_areTwo_2 : decode cX12_areTwo 2 = .ok (.i2l, 1) := by decide +kernel
theorem dX12_areTwo_3 : decode cX12_areTwo 3 = .ok (.invokevirtual 307, 3) := by decide +kernel
theorem dX12_areTwo_6 : decode cX12_areTwo 6 = .ok (.ifCond .eq 21, 3) := by decide +kernel
theorem dX12_areTwo_9 : decode cX12_areTwo 9 = .ok (.aload_n 0, 1) := by decide +kernel
theorem dX12_areTwo_10 : decode cX12_areTwo 10 = .ok (.iload_n 2, 1) := by decide +kernel
theorem dX12_areTwo_11 : decode cX12_areTwo 11 = .ok (.i2l, 1) := by decide +kernel
theorem dX12_areTwo_12 : decode cX12_areTwo 12 = .ok (.invokevirtual 307, 3) := by decide +kernel
theorem dX12_areTwo_15 : decode cX12_areTwo 15 = .ok (.ifCond .eq 12, 3) := by decide +kernel
theorem dX12_areTwo_18 : decode cX12_areTwo 18 = .ok (.iload_n 1, 1) := by decide +kernel
theorem dX12_areTwo_19 : decode cX12_areTwo 19 = .ok (.iload_n 2, 1) := by decide +kernel
theorem dX12_areTwo_20 : decode cX12_areTwo 20 = .ok (.if_icmp .eq 7, 3) := by decide +kernel
theorem dX12_areTwo_23 : decode cX12_areTwo 23 = .ok (.iconst 1, 1) := by decide +kernel
theorem dX12_areTwo_24 : decode cX12_areTwo 24 = .ok (.goto 4, 3) := by decide +kernel
theorem dX12_areTwo_27 : decode cX12_areTwo 27 = .ok (.iconst 0, 1) := by decide +kernel
theorem dX12_areTwo_28 : decode cX12_areTwo 28 = .ok (.ireturn, 1) := by decide +kernel
theorem mokX12_areTwo : MOK yX12_areTwo cX12_areTwo 3 (some .boolean) 2 := ⟨w9_158, w1_13, ⟨by decide, by decide⟩, by decide +kernel, by decide⟩
abbrev miX12_areTwo : MI := (yX12_areTwo.cls, cX12_areTwo, 3, 3, false)
noncomputable def BX12_areTwo : Sm Int32 := (dRet (dB (dAnd (dAnd (dCZ q_ne (dCallV 12 DX12_isHouse (aL (aR aN 0 (vR 0)) 1 (d1 o_i2l (vI 1))))) (dCZ q_ne (dCallV 12 DX12_isHouse (aL (aR aN 0 (vR 0)) 1 (d1 o_i2l (vI 2)))))) (dCI r_ne (vI 1) (vI 2)))))
theorem sBX12_areTwo : SS (cvoI, .ireturn) miX12_areTwo [] [] [] [(0, 2), (1, 0), (2, 0)] [(0, 2), (1, 0), (2, 0)] 0 [] BX12_areTwo := (t_ret (cv := cvI) (fun _ _ => rfl) (s_B (pT := 23) (pF := 27) (pe := 28) (c_and (p1 := 18) (pT := 23) (pF := 27) (c_and (p1 := 9) (pT := 18) (pF := 27) (c_ne_ZF (pF := 27) (s_of_xI (x_callV (ts := [(0, 2), (1, 1)]) ck12 rfl kX12_isHouse mokX12_isHouse w8_58 ps5_0 rfl rfl rfl rfl (a_L (ts := [(0, 2)]) 1 (a_R (ts := []) 0 a_nil (s_aload_n dX12_areTwo_0 rfl rfl) rfl) (s_i2l (s_iload_n dX12_areTwo_1 rfl rfl) dX12_areTwo_2) rfl) dX12_areTwo_3 w8_56)) dX12_areTwo_6 rfl) (c_ne_ZF (pF := 27) (s_of_xI (x_callV (ts := [(0, 2), (1, 1)]) ck12 rfl kX12_isHouse mokX12_isHouse w8_58 ps5_0 rfl rfl rfl rfl (a_L (ts := [(0, 2)]) 1 (a_R (ts := []) 0 a_nil (s_aload_n dX12_areTwo_9 rfl rfl) rfl) (s_i2l (s_iload_n dX12_areTwo_10 rfl rfl) dX12_areTwo_11) rfl) dX12_areTwo_12 w8_56)) dX12_areTwo_15 rfl)) (c_ne_F (pF := 27) (s_iload_n dX12_areTwo_18 rfl rfl) (s_iload_n dX12_areTwo_19 rfl rfl) dX12_areTwo_20 rfl)) dX12_areTwo_23 dX12_areTwo_24 rfl dX12_areTwo_27 rfl) dX12_areTwo_28)
noncomputable def DX12_areTwo : Fr → St → Option (Int32 × St) := MZ (fun f => (sI (sI (sR fr0 0 (gR f 0)) 1 (gI f 1)) 2 (gI f 2))) BX12_areTwo
theorem kX12_areTwo : SND yX12_areTwo cX12_areTwo 3 (some .boolean) 3 [(0, 2), (1, 0), (2, 0)] cvoI DX12_areTwo := snd_Z (nw := 3) (by decide) rfl rfl (fun _ _ => rfl) sBX12_areTwo
theorem dX12_isHalf_0 : decode cX12_isHalf 0 = .ok (.iload_n 0, 1) := by decide +kernel
theorem dX12_isHalf_1 : decode cX12_isHalf 1 = .ok (.i2l, 1) := by decide +kernel
theorem dX12_isHalf_2 : decode cX12_isHalf 2 = .ok (.lconst 0, 1) := by decide +kernel
theorem dX12_isHalf_3 : decode cX12_isHalf 3 = .ok (.lconst 1, 1) := by decide +kernel
theorem dX12_isHalf_4 : decode cX12_isHalf 4 = .ok (.invokestatic 127, 3) := by decide +kernel
theorem dX12_isHalf_7 : decode cX12_isHalf 7 = .ok (.ireturn, 1) := by decide +kernel
theorem mokX12_isHalf : MOK yX12_isHalf cX12_isHalf 1 (some .boolean) 1 := ⟨w8_78, w1_13, ⟨by decide, by decide⟩, by decide +kernel, by decide⟩
abbrev miX12_isHalf : MI := (yX12_isHalf.cls, cX12_isHalf, 1, 2, false)
noncomputable def BX12_isHalf : Sm Int32 := (dRet (dCall DX12_in (aL (aL (aL aN 0 (d1 o_i2l (vI 0))) 2 (cL 0)) 4 (cL 1))))
theorem sBX12_isHalf : SS (cvoI, .ireturn) miX12_isHalf [] [] [] [(0, 0)] [(0, 0)] 0 [] BX12_isHalf := (t_ret (cv := cvI) (fun _ _ => rfl) (s_of_xI (x_call (ts := [(0, 1), (2, 1), (4, 1)]) kX12_in mokX12_in w7_141 rfl rfl rfl (a_L (ts := [(0, 1), (2, 1)]) 4 (a_L (ts := [(0, 1)]) 2 (a_L (ts := []) 0 a_nil (s_i2l (s_iload_n dX12_isHalf_0 rfl rfl) dX12_isHalf_1) rfl) (s_lconst dX12_isHalf_2 rfl) rfl) (s_lconst dX12_isHalf_3 rfl) rfl) dX12_isHalf_4 w7_140)) dX12_isHalf_7)
noncomputable def DX12_isHalf : Fr → St → Option (Int32 × St) := MZ (fun f => (sI fr0 0 (gI f 0))) BX12_isHalf
theorem kX12_isHalf : SND yX12_isHalf cX12_isHalf 1 (some .boolean) 2 [(0, 0)] cvoI DX12_isHalf := snd_Z (nw := 1) (by decide) rfl rfl (fun _ _ => rfl) sBX12_isHalf
theorem dX12_carryMany_0 : decode cX12_carryMany 0 = .ok (.aload_n 0, 1) := by decide +kernel
theorem dX12_carryMany_1 : decode cX12_carryMany 1 = .ok (.getfield 34, 3) := by decide +kernel
theorem dX12_carryMany_4 : decode cX12_carryMany 4 = .ok (.bipush 7, 2) := by decide +kernel
theorem dX12_carryMany_6 : decode cX12_carryMany 6 = .ok (.iaload, 1) := by decide +kernel
theorem dX12_carryMany_7 : decode cX12_carryMany 7 = .ok (.istore_n 1, 1) := by decide +kernel
theorem dX12_carryMany_8 : decode cX12_carryMany 8 = .ok (.iconst 0, 1) := by decide +kernel
theorem dX12_carryMany_9 : decode cX12_carryMany 9 = .ok (.istore_n 2, 1) := by decide +kernel
theorem dX12_carryMany_10 : decode cX12_carryMany 10 = .ok (.iload_n 2, 1) := by decide +kernel
theorem dX12_carryMany_11 : decode cX12_carryMany 11 = .ok (.aload_n 0, 1) := by decide +kernel
theorem dX12_carryMany_12 : decode cX12_carryMany 12 = .ok (.getfield 34, 3) := by decide +kernel
theorem dX12_carryMany_15 : decode cX12_carryMany 15 = .ok (.bipush 8, 2) := by decide +kernel
theorem dX12_carryMany_17 : decode cX12_carryMany 17 = .ok (.iaload, 1) := by decide +kernel
theorem dX12_carryMany_18 : decode cX12_carryMany 18 = .ok (.if_icmp .ge 29, 3) := by decide +kernel
theorem dX12_carryMany_21 : decode cX12_carryMany 21 = .ok (.iload_n 1, 1) := by decide +kernel
theorem dX12_carryMany_22 : decode cX12_carryMany 22 = .ok (.aload_n 0, 1) := by decide +kernel
theorem dX12_carryMany_23 : decode cX12_carryMany 23 = .ok (.getfield 58, 3) := by decide +kernel
theorem dX12_carryMany_26 : decode cX12_carryMany 26 = .ok (.iconst 4, 1) := by decide +kernel
theorem dX12_carryMany_27 : decode cX12_carryMany 27 = .ok (.iload_n 2, 1) := by decide +kernel
theorem dX12_carryMany_28 : decode cX12_carryMany 28 = .ok (.imul, 1) := by decide +kernel
theorem dX12_carryMany_29 : decode cX12_carryMany 29 = .ok (.iaload, 1) := by decide +kernel
theorem dX12_carryMany_30 : decode cX12_carryMany 30 = .ok (.iconst (-1), 1) := by decide +kernel
theorem dX12_carryMany_31 : decode cX12_carryMany 31 = .ok (.if_icmp .ne 7, 3) := by decide +kernel
theorem dX12_carryMany_34 : decode cX12_carryMany 34 = .ok (.iconst 0, 1) := by decide +kernel
theorem dX12_carryMany_35 : decode cX12_carryMany 35 = .ok (.goto 4, 3) := by decide +kernel
theorem dX12_carryMany_38 : decode cX12_carryMany 38 = .ok (.iconst 1, 1) := by decide +kernel
theorem dX12_carryMany_39 : decode cX12_carryMany 39 = .ok (.iadd, 1) := by decide +kernel
theorem dX12_carryMany_40 : decode cX12_carryMany 40 = .ok (.istore_n 1, 1) := by decide +kernel
theorem dX12_carryMany_41 : decode cX12_carryMany 41 = .ok (.iinc 2 1, 3) := by decide +kernel
theorem dX12_carryMany_44 : decode cX12_carryMany 44 = .ok (.goto (-34), 3) := by decide +kernel
theorem dX12_carryMany_47 : decode cX12_carryMany 47 = .ok (.iload_n 1, 1) := by decide +kernel
theorem dX12_carryMany_48 : decode cX12_carryMany 48 = .ok (.ireturn, 1) := by decide +kernel
theorem mokX12_carryMany : MOK yX12_carryMany cX12_carryMany 3 (some .int) 0 := ⟨w8_153, w1_13, ⟨by decide, by decide⟩, by decide +kernel, by decide⟩
abbrev miX12_carryMany : MI := (yX12_carryMany.cls, cX12_carryMany, 3, 1, false)
noncomputable def LX12_carryMany_1 : Sm Int32 := dLoop (fun f => (sI (sI (sR fr0 0 (gR f 0)) 1 (gI f 1)) 2 (gI f 2))) (dCI r_lt (vI 2) (dAI (dGR 12 17 (vR 0)) (cI 8))) (dSetI 1 (d2 o_iadd (vI 1) (dT (dCI r_eq (dAI (dGR 12 25 (vR 0)) (d2 o_imul (cI 4) (vI 2))) (cI (-1))) (cI 0) (cI 1)))) (dInc 2 1)
theorem sLX12_carryMany_1 {ΓL : Gm} {PB PK : List Nat} : SS (cvoI, .ireturn) miX12_carryMany ΓL PB PK [(0, 2), (1, 0), (2, 0)] [(0, 2), (1, 0), (2, 0)] 10 [47] LX12_carryMany_1 := t_loop (pT := 21) (pF := 47) (pu := 41) (PB' := []) (PK' := []) (XB := [41]) (XU := [44]) (fun _ _ => rfl) rfl (c_lt_F (pF := 47) (s_iload_n dX12_carryMany_10 rfl rfl) (s_dAI (s_getR ck12 17 (by decide) rfl (s_aload_n dX12_carryMany_11 rfl rfl) dX12_carryMany_12 w6_222) (s_bipush dX12_carryMany_15 rfl) dX12_carryMany_17) dX12_carryMany_18 rfl) (t_istore_n (s_iadd (s_iload_n dX12_carryMany_21 rfl rfl) (s_T (pT := 34) (pF := 38) (p1 := 35) (pe := 39) (c_eq_F (pF := 38) (s_dAI (s_getR ck12 25 (by decide) rfl (s_aload_n dX12_carryMany_22 rfl rfl) dX12_carryMany_23 w6_230) (s_imul (s_iconst dX12_carryMany_26 rfl) (s_iload_n dX12_carryMany_27 rfl rfl) dX12_carryMany_28) dX12_carryMany_29) (s_iconst dX12_carryMany_30 rfl) dX12_carryMany_31 rfl) (s_iconst dX12_carryMany_34 rfl) (s_iconst dX12_carryMany_38 rfl) (ld_goto (y := 39) dX12_carryMany_35 rfl (ld_in rfl))) dX12_carryMany_39) dX12_carryMany_40 rfl rfl rfl) (t_iinc dX12_carryMany_41 rfl rfl rfl rfl) (lda_cons (ld_in rfl) lda_nil) lda_nil (lda_cons (ld_goto (y := 10) dX12_carryMany_44 rfl (ld_in rfl)) lda_nil) (ld_in rfl) lda_nil
noncomputable def BX12_carryMany : Sm Int32 := (dSeq (dSetI 1 (dAI (dGR 12 17 (vR 0)) (cI 7))) (dSeq (dSeq (dSetI 2 (cI 0)) LX12_carryMany_1) (dRet (vI 1))))
theorem sBX12_carryMany : SS (cvoI, .ireturn) miX12_carryMany [] [] [] [(0, 2)] [(0, 2)] 0 [] BX12_carryMany := (t_sq (p1 := 8) (Γ' := [(0, 2), (1, 0)]) (t_istore_n (s_dAI (s_getR ck12 17 (by decide) rfl (s_aload_n dX12_carryMany_0 rfl rfl) dX12_carryMany_1 w6_222) (s_bipush dX12_carryMany_4 rfl) dX12_carryMany_6) dX12_carryMany_7 rfl rfl rfl) (t_sq (p1 := 47) (Γ' := [(0, 2), (1, 0)]) (t_sq (p1 := 10) (Γ' := [(0, 2), (1, 0), (2, 0)]) (t_istore_n (s_iconst dX12_carryMany_8 rfl) dX12_carryMany_9 rfl rfl rfl) (tn_to (Γ' := [(0, 2), (1, 0), (2, 0)]) (XA := [47]) sLX12_carryMany_1 (lda_cons (ld_in rfl) lda_nil) rfl)) (t_ret (cv := cvI) (fun _ _ => rfl) (s_iload_n dX12_carryMany_47 rfl rfl) dX12_carryMany_48)))
noncomputable def DX12_carryMany : Fr → St → Option (Int32 × St) := M1 (fun f => (sR fr0 0 (gR f 0))) BX12_carryMany
theorem kX12_carryMany : SND yX12_carryMany cX12_carryMany 3 (some .int) 1 [(0, 2)] cvoI DX12_carryMany := snd_I (nw := 1) (by decide) rfl rfl (fun _ _ => rfl) sBX12_carryMany
theorem dX12_carryPart_0 : decode cX12_carryPart 0 = .ok (.iload_n 1, 1) := by decide +kernel
theorem dX12_carryPart_1 : decode cX12_carryPart 1 = .ok (.aload_n 0, 1) := by decide +kernel
theorem dX12_carryPart_2 : decode cX12_carryPart 2 = .ok (.getfield 34, 3) := by decide +kernel
theorem dX12_carryPart_5 : decode cX12_carryPart 5 = .ok (.bipush 7, 2) := by decide +kernel
theorem dX12_carryPart_7 : decode cX12_carryPart 7 = .ok (.iaload, 1) := by decide +kernel
theorem dX12_carryPart_8 : decode cX12_carryPart 8 = .ok (.if_icmp .ge 14, 3) := by decide +kernel
theorem dX12_carryPart_11 : decode cX12_carryPart 11 = .ok (.aload_n 0, 1) := by decide +kernel
theorem dX12_carryPart_12 : decode cX12_carryPart 12 = .ok (.getfield 55, 3) := by decide +kernel
theorem dX12_carryPart_15 : decode cX12_carryPart 15 = .ok (.iconst 4, 1) := by decide +kernel
theorem dX12_carryPart_16 : decode cX12_carryPart 16 = .ok (.iload_n 1, 1) := by decide +kernel
theorem dX12_carryPart_17 : decode cX12_carryPart 17 = .ok (.imul, 1) := by decide +kernel
theorem dX12_carryPart_18 : decode cX12_carryPart 18 = .ok (.iload_n 2, 1) := by decide +kernel
theorem dX12_carryPart_19 : decode cX12_carryPart 19 = .ok (.iadd, 1) := by decide +kernel
theorem dX12_carryPart_20 : decode cX12_carryPart 20 = .ok (.iaload, 1) := by decide +kernel
theorem dX12_carryPart_21 : decode cX12_carryPart 21 = .ok (.ireturn, 1) := by decide +kernel
theorem dX12_carryPart_22 : decode cX12_carryPart 22 = .ok (.aload_n 0, 1) := by decide +kernel
theorem dX12_carryPart_23 : decode cX12_carryPart 23 = .ok (.getfield 34, 3) := by decide +kernel
theorem dX12_carryPart_26 : decode cX12_carryPart 26 = .ok (.bipush 7, 2) := by decide +kernel
theorem dX12_carryPart_28 : decode cX12_carryPart 28 = .ok (.iaload, 1) := by decide +kernel
theorem dX12_carryPart_29 : decode cX12_carryPart 29 = .ok (.istore_n 3, 1) := by decide +kernel
theorem dX12_carryPart_30 : decode cX12_carryPart 30 = .ok (.iconst 0, 1) := by decide +kernel
theorem dX12_carryPart_31 : decode cX12_carryPart 31 = .ok (.istore 4, 2) := by decide +kernel
theorem dX12_carryPart_33 : decode cX12_carryPart 33 = .ok (.iload 4, 2) := by decide +kernel
theorem dX12_carryPart_35 : decode cX12_carryPart 35 = .ok (.aload_n 0, 1) := by decide +kernel
theorem dX12_carryPart_36 : decode cX12_carryPart 36 = .ok (.getfield 34, 3) := by decide +kernel
theorem dX12_carryPart_39 : decode cX12_carryPart 39 = .ok (.bipush 8, 2) := by decide +kernel
theorem dX12_carryPart_41 : decode cX12_carryPart 41 = .ok (.iaload, 1) := by decide +kernel
theorem dX12_carryPart_42 : decode cX12_carryPart 42 = .ok (.if_icmp .ge 45, 3) := by decide +kernel
theorem dX12_carryPart_45 : decode cX12_carryPart 45 = .ok (.aload_n 0, 1) := by decide +kernel
theorem dX12_carryPart_46 : decode cX12_carryPart 46 = .ok (.getfield 58, 3) := by decide +kernel
theorem dX12_carryPart_49 : decode cX12_carryPart 49 = .ok (.iconst 4, 1) := by decide +kernel
theorem dX12_carryPart_50 : decode cX12_carryPart 50 = .ok (.iload 4, 2) := by decide +kernel
theorem dX12_carryPart_52 : decode cX12_carryPart 52 = .ok (.imul, 1) := by decide +kernel
theorem dX12_carryPart_53 : decode cX12_carryPart 53 = .ok (.iaload, 1) := by decide +kernel
theorem dX12_carryPart_54 : decode cX12_carryPart 54 = .ok (.iconst (-1), 1) := by decide +kernel
theorem dX12_carryPart_55 : decode cX12_carryPart 55 = .ok (.if_icmp .ne 6, 3) := by decide +kernel
theorem dX12_carryPart_58 : decode cX12_carryPart 58 = .ok (.goto 23, 3) := by decide +kernel
theorem dX12_carryPart_61 : decode cX12_carryPart 61 = .ok (.iload_n 3, 1) := by decide +kernel
theorem dX12_carryPart_62 : decode cX12_carryPart 62 = .ok (.iload_n 1, 1) := by decide +kernel
theorem dX12_carryPart_63 : decode cX12_carryPart 63 = .ok (.if_icmp .ne 15, 3) := by decide +kernel
theorem dX12_carryPart_66 : decode cX12_carryPart 66 = .ok (.aload_n 0, 1) := by decide +kernel
theorem dX12_carryPart_67 : decode cX12_carryPart 67 = .ok (.getfield 58, 3) := by decide +kernel
theorem dX12_carryPart_70 : decode cX12_carryPart 70 = .ok (.iconst 4, 1) := by decide +kernel
theorem dX12_carryPart_71 : decode cX12_carryPart 71 = .ok (.iload 4, 2) := by decide +kernel
theorem dX12_carryPart_73 : decode cX12_carryPart 73 = .ok (.imul, 1) := by decide +kernel
theorem dX12_carryPart_74 : decode cX12_carryPart 74 = .ok (.iload_n 2, 1) := by decide +kernel
theorem dX12_carryPart_75 : decode cX12_carryPart 75 = .ok (.iadd, 1) := by decide +kernel
theorem dX12_carryPart_76 : decode cX12_carryPart 76 = .ok (.iaload, 1) := by decide +kernel
theorem dX12_carryPart_77 : decode cX12_carryPart 77 = .ok (.ireturn, 1) := by decide +kernel
theorem dX12_carryPart_78 : decode cX12_carryPart 78 = .ok (.iinc 3 1, 3) := by decide +kernel
theorem dX12_carryPart_81 : decode cX12_carryPart 81 = .ok (.iinc 4 1, 3) := by decide +kernel
theorem dX12_carryPart_84 : decode cX12_carryPart 84 = .ok (.goto (-51), 3) := by decide +kernel
theorem dX12_carryPart_87 : decode cX12_carryPart 87 = .ok (.iconst (-1), 1) := by decide +kernel
theorem dX12_carryPart_88 : decode cX12_carryPart 88 = .ok (.ireturn, 1) := by decide +kernel
theorem mokX12_carryPart : MOK yX12_carryPart cX12_carryPart 5 (some .int) 2 := ⟨w8_157, w1_13, ⟨by decide, by decide⟩, by decide +kernel, by decide⟩
abbrev miX12_carryPart : MI := (yX12_carryPart.cls, cX12_carryPart, 5, 1, false)
noncomputable def LX12_carryPart_1 : Sm Int32 := dLoop (fun f => (sI (sI (sI (sI (sR fr0 0 (gR f 0)) 1 (gI f 1)) 2 (gI f 2)) 3 (gI f 3)) 4 (gI f 4))) (dCI r_lt (vI 4) (dAI (dGR 12 17 (vR 0)) (cI 8))) (dSeq (dIf (dCI r_eq (dAI (dGR 12 25 (vR 0)) (d2 o_imul (cI 4) (vI 4))) (cI (-1))) dCnt dSkip) (dSeq (dIf (dCI r_eq (vI 3) (vI 1)) (dRet (dAI (dGR 12 25 (vR 0)) (d2 o_iadd (d2 o_imul (cI 4) (vI 4)) (vI 2)))) dSkip) (dInc 3 1))) (dInc 4 1)
theorem sLX12_carryPart_1 {ΓL : Gm} {PB PK : List Nat} : SS (cvoI, .ireturn) miX12_carryPart ΓL PB PK [(0, 2), (1, 0), (2, 0), (3, 0), (4, 0)] [(0, 2), (1, 0), (2, 0), (3, 0), (4, 0)] 33 [87] LX12_carryPart_1 := t_loop (pT := 45) (pF := 87) (pu := 81) (PB' := []) (PK' := [81]) (XB := [81]) (XU := [84]) (fun _ _ => rfl) rfl (c_lt_F (pF := 87) (s_iload dX12_carryPart_33 rfl) (s_dAI (s_getR ck12 17 (by decide) rfl (s_aload_n dX12_carryPart_35 rfl rfl) dX12_carryPart_36 w6_222) (s_bipush dX12_carryPart_39 rfl) dX12_carryPart_41) dX12_carryPart_42 rfl) (t_sq (p1 := 61) (Γ' := [(0, 2), (1, 0), (2, 0), (3, 0), (4, 0)]) (t_if (pT := 58) (pF := 61) (X := [61]) (XA := []) (XB := [61]) (c_eq_F (pF := 61) (s_dAI (s_getR ck12 25 (by decide) rfl (s_aload_n dX12_carryPart_45 rfl rfl) dX12_carryPart_46 w6_230) (s_imul (s_iconst dX12_carryPart_49 rfl) (s_iload dX12_carryPart_50 rfl) dX12_carryPart_52) dX12_carryPart_53) (s_iconst dX12_carryPart_54 rfl) dX12_carryPart_55 rfl) (t_cnt (ld_goto (y := 81) dX12_carryPart_58 rfl (ld_in rfl)) rfl) (t_skip (ld_in rfl) rfl) lda_nil (lda_cons (ld_in rfl) lda_nil)) (t_sq (p1 := 78) (Γ' := [(0, 2), (1, 0), (2, 0), (3, 0), (4, 0)]) (t_if (pT := 66) (pF := 78) (X := [78]) (XA := []) (XB := [78]) (c_eq_F (pF := 78) (s_iload_n dX12_carryPart_61 rfl rfl) (s_iload_n dX12_carryPart_62 rfl rfl) dX12_carryPart_63 rfl) (t_ret (cv := cvI) (fun _ _ => rfl) (s_dAI (s_getR ck12 25 (by decide) rfl (s_aload_n dX12_carryPart_66 rfl rfl) dX12_carryPart_67 w6_230) (s_iadd (s_imul (s_iconst dX12_carryPart_70 rfl) (s_iload dX12_carryPart_71 rfl) dX12_carryPart_73) (s_iload_n dX12_carryPart_74 rfl rfl) dX12_carryPart_75) dX12_carryPart_76) dX12_carryPart_77) (t_skip (ld_in rfl) rfl) lda_nil (lda_cons (ld_in rfl) lda_nil)) (t_iinc dX12_carryPart_78 rfl rfl rfl rfl))) (t_iinc dX12_carryPart_81 rfl rfl rfl rfl) (lda_cons (ld_in rfl) lda_nil) (lda_cons (ld_in rfl) lda_nil) (lda_cons (ld_goto (y := 33) dX12_carryPart_84 rfl (ld_in rfl)) lda_nil) (ld_in rfl) lda_nil
noncomputable def BX12_carryPart : Sm Int32 := (dSeq (dIf (dCI r_lt (vI 1) (dAI (dGR 12 17 (vR 0)) (cI 7))) (dRet (dAI (dGR 12 24 (vR 0)) (d2 o_iadd (d2 o_imul (cI 4) (vI 1)) (vI 2)))) dSkip) (dSeq (dSetI 3 (dAI (dGR 12 17 (vR 0)) (cI 7))) (dSeq (dSeq (dSetI 4 (cI 0)) LX12_carryPart_1) (dRet (cI (-1))))))
theorem sBX12_carryPart : SS (cvoI, .ireturn) miX12_carryPart [] [] [] [(0, 2), (1, 0), (2, 0)] [(0, 2), (1, 0), (2, 0)] 0 [] BX12_carryPart := (t_sq (p1 := 22) (Γ' := [(0, 2), (1, 0), (2, 0)]) (t_if (pT := 11) (pF := 22) (X := [22]) (XA := []) (XB := [22]) (c_lt_F (pF := 22) (s_iload_n dX12_carryPart_0 rfl rfl) (s_dAI (s_getR ck12 17 (by decide) rfl (s_aload_n dX12_carryPart_1 rfl rfl) dX12_carryPart_2 w6_222) (s_bipush dX12_carryPart_5 rfl) dX12_carryPart_7) dX12_carryPart_8 rfl) (t_ret (cv := cvI) (fun _ _ => rfl) (s_dAI (s_getR ck12 24 (by decide) rfl (s_aload_n dX12_carryPart_11 rfl rfl) dX12_carryPart_12 w6_229) (s_iadd (s_imul (s_iconst dX12_carryPart_15 rfl) (s_iload_n dX12_carryPart_16 rfl rfl) dX12_carryPart_17) (s_iload_n dX12_carryPart_18 rfl rfl) dX12_carryPart_19) dX12_carryPart_20) dX12_carryPart_21) (t_skip (ld_in rfl) rfl) lda_nil (lda_cons (ld_in rfl) lda_nil)) (t_sq (p1 := 30) (Γ' := [(0, 2), (1, 0), (2, 0), (3, 0)]) (t_istore_n (s_dAI (s_getR ck12 17 (by decide) rfl (s_aload_n dX12_carryPart_22 rfl rfl) dX12_carryPart_23 w6_222) (s_bipush dX12_carryPart_26 rfl) dX12_carryPart_28) dX12_carryPart_29 rfl rfl rfl) (t_sq (p1 := 87) (Γ' := [(0, 2), (1, 0), (2, 0), (3, 0)]) (t_sq (p1 := 33) (Γ' := [(0, 2), (1, 0), (2, 0), (3, 0), (4, 0)]) (t_istore (s_iconst dX12_carryPart_30 rfl) dX12_carryPart_31 rfl rfl) (tn_to (Γ' := [(0, 2), (1, 0), (2, 0), (3, 0), (4, 0)]) (XA := [87]) sLX12_carryPart_1 (lda_cons (ld_in rfl) lda_nil) rfl)) (t_ret (cv := cvI) (fun _ _ => rfl) (s_iconst dX12_carryPart_87 rfl) dX12_carryPart_88))))
noncomputable def DX12_carryPart : Fr → St → Option (Int32 × St) := M1 (fun f => (sI (sI (sR fr0 0 (gR f 0)) 1 (gI f 1)) 2 (gI f 2))) BX12_carryPart
theorem kX12_carryPart : SND yX12_carryPart cX12_carryPart 5 (some .int) 1 [(0, 2), (1, 0), (2, 0)] cvoI DX12_carryPart := snd_I (nw := 3) (by decide) rfl rfl (fun _ _ => rfl) sBX12_carryPart
theorem dX12_whyNow_0 : decode cX12_whyNow 0 = .ok (.aload_n 0, 1) := by decide +kernel
theorem dX12_whyNow_1 : decode cX12_whyNow 1 = .ok (.iload_n 1, 1) := by decide +kernel
theorem dX12_whyNow_2 : decode cX12_whyNow 2 = .ok (.iconst 0, 1) := by decide +kernel
theorem dX12_whyNow_3 : decode cX12_whyNow 3 = .ok (.invokevirtual 326, 3) := by decide +kernel
theorem dX12_whyNow_6 : decode cX12_whyNow 6 = .ok (.istore_n 2, 1) := by decide +kernel
theorem dX12_whyNow_7 : decode cX12_whyNow 7 = .ok (.aload_n 0, 1) := by decide +kernel
theorem dX12_whyNow_8 : decode cX12_whyNow 8 = .ok (.iload_n 1, 1) := by decide +kernel
theorem dX12_whyNow_9 : decode cX12_whyNow 9 = .ok (.iconst 1, 1) := by decide +kernel
theorem dX12_whyNow_10 : decode cX12_whyNow 10 = .ok (.invokevirtual 326, 3) := by decide +kernel
theorem dX12_whyNow_13 : decode cX12_whyNow 13 = .ok (.istore_n 3, 1) := by decide +kernel
theorem dX12_whyNow_14 : decode cX12_whyNow 14 = .ok (.aload_n 0, 1) := by decide +kernel
theorem dX12_whyNow_15 : decode cX12_whyNow 15 = .ok (.iload_n 1, 1) := by decide +kernel
theorem dX12_whyNow_16 : decode cX12_whyNow 16 = .ok (.iconst 2, 1) := by decide +kernel
theorem dX12_whyNow_17 : decode cX12_whyNow 17 = .ok (.invokevirtual 326, 3) := by decide +kernel
theorem dX12_whyNow_20 : decode cX12_whyNow 20 = .ok (.istore 4, 2) := by decide +kernel
theorem dX12_whyNow_22 : decode cX12_whyNow 22 = .ok (.aload_n 0, 1) := by decide +kernel
theorem dX12_whyNow_23 : decode cX12_whyNow 23 = .ok (.getfield 329, 3) := by decide +kernel
theorem dX12_whyNow_26 : decode cX12_whyNow 26 = .ok (.iload_n 2, 1) := by decide +kernel
theorem dX12_whyNow_27 : decode cX12_whyNow 27 = .ok (.invokestatic 322, 3) := by decide +kernel
theorem dX12_whyNow_30 : decode cX12_whyNow 30 = .ok (.ifCond .ne 14, 3) := by decide +kernel
theorem dX12_whyNow_33 : decode cX12_whyNow 33 = .ok (.aload_n 0, 1) := by decide +kernel
theorem dX12_whyNow_34 : decode cX12_whyNow 34 = .ok (.getfield 332, 3) := by decide +kernel
theorem dX12_whyNow_37 : decode cX12_whyNow 37 = .ok (.iload_n 3, 1) := by decide +kernel
theorem dX12_whyNow_38 : decode cX12_whyNow 38 = .ok (.invokestatic 322, 3) := by decide +kernel
theorem dX12_whyNow_41 : decode cX12_whyNow 41 = .ok (.ifCond .eq 5, 3) := by decide +kernel
theorem dX12_whyNow_44 : decode cX12_whyNow 44 = .ok (.iconst 2, 1) := by decide +kernel
theorem dX12_whyNow_45 : decode cX12_whyNow 45 = .ok (.ireturn, 1) := by decide +kernel
theorem dX12_whyNow_46 : decode cX12_whyNow 46 = .ok (.aload_n 0, 1) := by decide +kernel
theorem dX12_whyNow_47 : decode cX12_whyNow 47 = .ok (.getfield 83, 3) := by decide +kernel
theorem dX12_whyNow_50 : decode cX12_whyNow 50 = .ok (.iload_n 2, 1) := by decide +kernel
theorem dX12_whyNow_51 : decode cX12_whyNow 51 = .ok (.iaload, 1) := by decide +kernel
theorem dX12_whyNow_52 : decode cX12_whyNow 52 = .ok (.aload_n 0, 1) := by decide +kernel
theorem dX12_whyNow_53 : decode cX12_whyNow 53 = .ok (.getfield 86, 3) := by decide +kernel
theorem dX12_whyNow_56 : decode cX12_whyNow 56 = .ok (.iload_n 3, 1) := by decide +kernel
theorem dX12_whyNow_57 : decode cX12_whyNow 57 = .ok (.iaload, 1) := by decide +kernel
theorem dX12_whyNow_58 : decode cX12_whyNow 58 = .ok (.if_icmp .eq 5, 3) := by decide +kernel
theorem dX12_whyNow_61 : decode cX12_whyNow 61 = .ok (.iconst 3, 1) := by decide +kernel
theorem dX12_whyNow_62 : decode cX12_whyNow 62 = .ok (.ireturn, 1) := by decide +kernel
theorem dX12_whyNow_63 : decode cX12_whyNow 63 = .ok (.aload_n 0, 1) := by decide +kernel
theorem dX12_whyNow_64 : decode cX12_whyNow 64 = .ok (.aload_n 0, 1) := by decide +kernel
theorem dX12_whyNow_65 : decode cX12_whyNow 65 = .ok (.getfield 83, 3) := by decide +kernel
theorem dX12_whyNow_68 : decode cX12_whyNow 68 = .ok (.iload_n 2, 1) := by decide +kernel
theorem dX12_whyNow_69 : decode cX12_whyNow 69 = .ok (.iaload, 1) := by decide +kernel
theorem dX12_whyNow_70 : decode cX12_whyNow 70 = .ok (.iload 4, 2) := by decide +kernel
theorem dX12_whyNow_72 : decode cX12_whyNow 72 = .ok (.invokevirtual 335, 3) := by decide +kernel
theorem dX12_whyNow_75 : decode cX12_whyNow 75 = .ok (.ifCond .ne 5, 3) := by decide +kernel
theorem dX12_whyNow_78 : decode cX12_whyNow 78 = .ok (.iconst 4, 1) := by decide +kernel
theorem dX12_whyNow_79 : decode cX12_whyNow 79 = .ok (.ireturn, 1) := by decide +kernel
theorem dX12_whyNow_80 : decode cX12_whyNow 80 = .ok (.aload_n 0, 1) := by decide +kernel
theorem dX12_whyNow_81 : decode cX12_whyNow 81 = .ok (.getfield 101, 3) := by decide +kernel
theorem dX12_whyNow_84 : decode cX12_whyNow 84 = .ok (.iload_n 1, 1) := by decide +kernel
theorem dX12_whyNow_85 : decode cX12_whyNow 85 = .ok (.aload_n 0, 1) := by decide +kernel
theorem dX12_whyNow_86 : decode cX12_whyNow 86 = .ok (.iload_n 3, 1) := by decide +kernel
theorem dX12_whyNow_87 : decode cX12_whyNow 87 = .ok (.aload_n 0, 1) := by decide +kernel
theorem dX12_whyNow_88 : decode cX12_whyNow 88 = .ok (.getfield 89, 3) := by decide +kernel
theorem dX12_whyNow_91 : decode cX12_whyNow 91 = .ok (.iload_n 3, 1) := by decide +kernel
theorem dX12_whyNow_92 : decode cX12_whyNow 92 = .ok (.iaload, 1) := by decide +kernel
theorem dX12_whyNow_93 : decode cX12_whyNow 93 = .ok (.invokevirtual 338, 3) := by decide +kernel
theorem dX12_whyNow_96 : decode cX12_whyNow 96 = .ok (.aload_n 0, 1) := by decide +kernel
theorem dX12_whyNow_97 : decode cX12_whyNow 97 = .ok (.aload_n 0, 1) := by decide +kernel
theorem dX12_whyNow_98 : decode cX12_whyNow 98 = .ok (.getfield 83, 3) := by decide +kernel
theorem dX12_whyNow_101 : decode cX12_whyNow 101 = .ok (.iload_n 2, 1) := by decide +kernel
theorem dX12_whyNow_102 : decode cX12_whyNow 102 = .ok (.iaload, 1) := by decide +kernel
theorem dX12_whyNow_103 : decode cX12_whyNow 103 = .ok (.iload 4, 2) := by decide +kernel
theorem dX12_whyNow_105 : decode cX12_whyNow 105 = .ok (.invokevirtual 341, 3) := by decide +kernel
theorem dX12_whyNow_108 : decode cX12_whyNow 108 = .ok (.iadd, 1) := by decide +kernel
theorem dX12_whyNow_109 : decode cX12_whyNow 109 = .ok (.iastore, 1) := by decide +kernel
theorem dX12_whyNow_110 : decode cX12_whyNow 110 = .ok (.aload_n 0, 1) := by decide +kernel
theorem dX12_whyNow_111 : decode cX12_whyNow 111 = .ok (.getfield 101, 3) := by decide +kernel
theorem dX12_whyNow_114 : decode cX12_whyNow 114 = .ok (.iload_n 1, 1) := by decide +kernel
theorem dX12_whyNow_115 : decode cX12_whyNow 115 = .ok (.iaload, 1) := by decide +kernel
theorem dX12_whyNow_116 : decode cX12_whyNow 116 = .ok (.aload_n 0, 1) := by decide +kernel
theorem dX12_whyNow_117 : decode cX12_whyNow 117 = .ok (.getfield 43, 3) := by decide +kernel
theorem dX12_whyNow_120 : decode cX12_whyNow 120 = .ok (.iconst 2, 1) := by decide +kernel
theorem dX12_whyNow_121 : decode cX12_whyNow 121 = .ok (.iload_n 2, 1) := by decide +kernel
theorem dX12_whyNow_122 : decode cX12_whyNow 122 = .ok (.imul, 1) := by decide +kernel
theorem dX12_whyNow_123 : decode cX12_whyNow 123 = .ok (.iconst 1, 1) := by decide +kernel
theorem dX12_whyNow_124 : decode cX12_whyNow 124 = .ok (.iadd, 1) := by decide +kernel
theorem dX12_whyNow_125 : decode cX12_whyNow 125 = .ok (.iaload, 1) := by decide +kernel
theorem dX12_whyNow_126 : decode cX12_whyNow 126 = .ok (.if_icmp .le 7, 3) := by decide +kernel
theorem dX12_whyNow_129 : decode cX12_whyNow 129 = .ok (.iconst 5, 1) := by decide +kernel
theorem dX12_whyNow_130 : decode cX12_whyNow 130 = .ok (.goto 4, 3) := by decide +kernel
theorem dX12_whyNow_133 : decode cX12_whyNow 133 = .ok (.iconst 0, 1) := by decide +kernel
theorem dX12_whyNow_134 : decode cX12_whyNow 134 = .ok (.ireturn, 1) := by decide +kernel
theorem mokX12_whyNow : MOK yX12_whyNow cX12_whyNow 5 (some .int) 1 := ⟨w8_161, w1_13, ⟨by decide, by decide⟩, by decide +kernel, by decide⟩
abbrev miX12_whyNow : MI := (yX12_whyNow.cls, cX12_whyNow, 5, 3, false)
noncomputable def BX12_whyNow : Sm Int32 := (dSeq (dSetI 2 (dCallV 12 DX12_carryPart (aI (aI (aR aN 0 (vR 0)) 1 (vI 1)) 2 (cI 0)))) (dSeq (dSetI 3 (dCallV 12 DX12_carryPart (aI (aI (aR aN 0 (vR 0)) 1 (vI 1)) 2 (cI 1)))) (dSeq (dSetI 4 (dCallV 12 DX12_carryPart (aI (aI (aR aN 0 (vR 0)) 1 (vI 1)) 2 (cI 2)))) (dSeq (dIf (dOr (dCZ q_ne (dCall DX12_isBit (aI (aI aN 0 (dGI 12 45 (vR 0))) 1 (vI 2)))) (dCZ q_ne (dCall DX12_isBit (aI (aI aN 0 (dGI 12 46 (vR 0))) 1 (vI 3))))) (dRet (cI 2)) dSkip) (dSeq (dIf (dCI r_ne (dAI (dGR 12 37 (vR 0)) (vI 2)) (dAI (dGR 12 38 (vR 0)) (vI 3))) (dRet (cI 3)) dSkip) (dSeq (dIf (dNot (dCZ q_ne (dCallV 12 DX12_isWay (aI (aI (aR aN 0 (vR 0)) 1 (dAI (dGR 12 37 (vR 0)) (vI 2))) 2 (vI 4))))) (dRet (cI 4)) dSkip) (dSeq (d3 (stI 13 idI) (dGR 12 43 (vR 0)) (vI 1) (d2 o_iadd (dCallV 12 DX12_heavyOf (aI (aI (aR aN 0 (vR 0)) 1 (vI 3)) 2 (dAI (dGR 12 39 (vR 0)) (vI 3)))) (dCallV 12 DX12_climbOf (aI (aI (aR aN 0 (vR 0)) 1 (dAI (dGR 12 37 (vR 0)) (vI 2))) 2 (vI 4))))) (dRet (dT (dCI r_gt (dAI (dGR 12 43 (vR 0)) (vI 1)) (dAI (dGR 12 20 (vR 0)) (d2 o_iadd (d2 o_imul (cI 2) (vI 2)) (cI 1)))) (cI 5) (cI 0))))))))))
theorem sBX12_whyNow : SS (cvoI, .ireturn) miX12_whyNow [] [] [] [(0, 2), (1, 0)] [(0, 2), (1, 0)] 0 [] BX12_whyNow := (t_sq (p1 := 7) (Γ' := [(0, 2), (1, 0), (2, 0)]) (t_istore_n (s_of_xI (x_callV (ts := [(0, 2), (1, 0), (2, 0)]) ck12 rfl kX12_carryPart mokX12_carryPart w8_156 ps6_1 rfl rfl rfl rfl (a_I (ts := [(0, 2), (1, 0)]) 2 (a_I (ts := [(0, 2)]) 1 (a_R (ts := []) 0 a_nil (s_aload_n dX12_whyNow_0 rfl rfl) rfl) (s_iload_n dX12_whyNow_1 rfl rfl) rfl) (s_iconst dX12_whyNow_2 rfl) rfl) dX12_whyNow_3 w8_154)) dX12_whyNow_6 rfl rfl rfl) (t_sq (p1 := 14) (Γ' := [(0, 2), (1, 0), (2, 0), (3, 0)]) (t_istore_n (s_of_xI (x_callV (ts := [(0, 2), (1, 0), (2, 0)]) ck12 rfl kX12_carryPart mokX12_carryPart w8_156 ps6_1 rfl rfl rfl rfl (a_I (ts := [(0, 2), (1, 0)]) 2 (a_I (ts := [(0, 2)]) 1 (a_R (ts := []) 0 a_nil (s_aload_n dX12_whyNow_7 rfl rfl) rfl) (s_iload_n dX12_whyNow_8 rfl rfl) rfl) (s_iconst dX12_whyNow_9 rfl) rfl) dX12_whyNow_10 w8_154)) dX12_whyNow_13 rfl rfl rfl) (t_sq (p1 := 22) (Γ' := [(0, 2), (1, 0), (2, 0), (3, 0), (4, 0)]) (t_istore (s_of_xI (x_callV (ts := [(0, 2), (1, 0), (2, 0)]) ck12 rfl kX12_carryPart mokX12_carryPart w8_156 ps6_1 rfl rfl rfl rfl (a_I (ts := [(0, 2), (1, 0)]) 2 (a_I (ts := [(0, 2)]) 1 (a_R (ts := []) 0 a_nil (s_aload_n dX12_whyNow_14 rfl rfl) rfl) (s_iload_n dX12_whyNow_15 rfl rfl) rfl) (s_iconst dX12_whyNow_16 rfl) rfl) dX12_whyNow_17 w8_154)) dX12_whyNow_20 rfl rfl) (t_sq (p1 := 46) (Γ' := [(0, 2), (1, 0), (2, 0), (3, 0), (4, 0)]) (t_if (pT := 44) (pF := 46) (X := [46]) (XA := []) (XB := [46]) (c_or (p1 := 33) (pT := 44) (pF := 46) (c_ne_ZJ (pT := 44) (s_of_xI (x_call (ts := [(0, 0), (1, 0)]) kX12_isBit mokX12_isBit w8_104 rfl rfl rfl (a_I (ts := [(0, 0)]) 1 (a_I (ts := []) 0 a_nil (s_getI ck12 45 (by decide) rfl (s_aload_n dX12_whyNow_22 rfl rfl) dX12_whyNow_23 w7_10) rfl) (s_iload_n dX12_whyNow_26 rfl rfl) rfl) dX12_whyNow_27 w8_103)) dX12_whyNow_30 rfl) (c_ne_ZF (pF := 46) (s_of_xI (x_call (ts := [(0, 0), (1, 0)]) kX12_isBit mokX12_isBit w8_104 rfl rfl rfl (a_I (ts := [(0, 0)]) 1 (a_I (ts := []) 0 a_nil (s_getI ck12 46 (by decide) rfl (s_aload_n dX12_whyNow_33 rfl rfl) dX12_whyNow_34 w7_11) rfl) (s_iload_n dX12_whyNow_37 rfl rfl) rfl) dX12_whyNow_38 w8_103)) dX12_whyNow_41 rfl)) (t_ret (cv := cvI) (fun _ _ => rfl) (s_iconst dX12_whyNow_44 rfl) dX12_whyNow_45) (t_skip (ld_in rfl) rfl) lda_nil (lda_cons (ld_in rfl) lda_nil)) (t_sq (p1 := 63) (Γ' := [(0, 2), (1, 0), (2, 0), (3, 0), (4, 0)]) (t_if (pT := 61) (pF := 63) (X := [63]) (XA := []) (XB := [63]) (c_ne_F (pF := 63) (s_dAI (s_getR ck12 37 (by decide) rfl (s_aload_n dX12_whyNow_46 rfl rfl) dX12_whyNow_47 w7_2) (s_iload_n dX12_whyNow_50 rfl rfl) dX12_whyNow_51) (s_dAI (s_getR ck12 38 (by decide) rfl (s_aload_n dX12_whyNow_52 rfl rfl) dX12_whyNow_53 w7_3) (s_iload_n dX12_whyNow_56 rfl rfl) dX12_whyNow_57) dX12_whyNow_58 rfl) (t_ret (cv := cvI) (fun _ _ => rfl) (s_iconst dX12_whyNow_61 rfl) dX12_whyNow_62) (t_skip (ld_in rfl) rfl) lda_nil (lda_cons (ld_in rfl) lda_nil)) (t_sq (p1 := 80) (Γ' := [(0, 2), (1, 0), (2, 0), (3, 0), (4, 0)]) (t_if (pT := 78) (pF := 80) (X := [80]) (XA := []) (XB := [80]) (c_not (pT := 78) (pF := 80) (c_ne_ZJ (pT := 80) (s_of_xI (x_callV (ts := [(0, 2), (1, 0), (2, 0)]) ck12 rfl kX12_isWay mokX12_isWay w8_101 ps5_7 rfl rfl rfl rfl (a_I (ts := [(0, 2), (1, 0)]) 2 (a_I (ts := [(0, 2)]) 1 (a_R (ts := []) 0 a_nil (s_aload_n dX12_whyNow_63 rfl rfl) rfl) (s_dAI (s_getR ck12 37 (by decide) rfl (s_aload_n dX12_whyNow_64 rfl rfl) dX12_whyNow_65 w7_2) (s_iload_n dX12_whyNow_68 rfl rfl) dX12_whyNow_69) rfl) (s_iload dX12_whyNow_70 rfl) rfl) dX12_whyNow_72 w8_99)) dX12_whyNow_75 rfl)) (t_ret (cv := cvI) (fun _ _ => rfl) (s_iconst dX12_whyNow_78 rfl) dX12_whyNow_79) (t_skip (ld_in rfl) rfl) lda_nil (lda_cons (ld_in rfl) lda_nil)) (t_sq (p1 := 110) (Γ' := [(0, 2), (1, 0), (2, 0), (3, 0), (4, 0)]) (t_stI (s_getR ck12 43 (by decide) rfl (s_aload_n dX12_whyNow_80 rfl rfl) dX12_whyNow_81 w7_8) (s_iload_n dX12_whyNow_84 rfl rfl) (s_iadd (s_of_xI (x_callV (ts := [(0, 2), (1, 0), (2, 0)]) ck12 rfl kX12_heavyOf mokX12_heavyOf w8_164 ps6_3 rfl rfl rfl rfl (a_I (ts := [(0, 2), (1, 0)]) 2 (a_I (ts := [(0, 2)]) 1 (a_R (ts := []) 0 a_nil (s_aload_n dX12_whyNow_85 rfl rfl) rfl) (s_iload_n dX12_whyNow_86 rfl rfl) rfl) (s_dAI (s_getR ck12 39 (by decide) rfl (s_aload_n dX12_whyNow_87 rfl rfl) dX12_whyNow_88 w7_4) (s_iload_n dX12_whyNow_91 rfl rfl) dX12_whyNow_92) rfl) dX12_whyNow_93 w8_162)) (s_of_xI (x_callV (ts := [(0, 2), (1, 0), (2, 0)]) ck12 rfl kX12_climbOf mokX12_climbOf w8_116 ps5_9 rfl rfl rfl rfl (a_I (ts := [(0, 2), (1, 0)]) 2 (a_I (ts := [(0, 2)]) 1 (a_R (ts := []) 0 a_nil (s_aload_n dX12_whyNow_96 rfl rfl) rfl) (s_dAI (s_getR ck12 37 (by decide) rfl (s_aload_n dX12_whyNow_97 rfl rfl) dX12_whyNow_98 w7_2) (s_iload_n dX12_whyNow_101 rfl rfl) dX12_whyNow_102) rfl) (s_iload dX12_whyNow_103 rfl) rfl) dX12_whyNow_105 w8_114)) dX12_whyNow_108) dX12_whyNow_109 rfl) (t_ret (cv := cvI) (fun _ _ => rfl) (s_T (pT := 129) (pF := 133) (p1 := 130) (pe := 134) (c_gt_F (pF := 133) (s_dAI (s_getR ck12 43 (by decide) rfl (s_aload_n dX12_whyNow_110 rfl rfl) dX12_whyNow_111 w7_8) (s_iload_n dX12_whyNow_114 rfl rfl) dX12_whyNow_115) (s_dAI (s_getR ck12 20 (by decide) rfl (s_aload_n dX12_whyNow_116 rfl rfl) dX12_whyNow_117 w6_225) (s_iadd (s_imul (s_iconst dX12_whyNow_120 rfl) (s_iload_n dX12_whyNow_121 rfl rfl) dX12_whyNow_122) (s_iconst dX12_whyNow_123 rfl) dX12_whyNow_124) dX12_whyNow_125) dX12_whyNow_126 rfl) (s_iconst dX12_whyNow_129 rfl) (s_iconst dX12_whyNow_133 rfl) (ld_goto (y := 134) dX12_whyNow_130 rfl (ld_in rfl))) dX12_whyNow_134))))))))
noncomputable def DX12_whyNow : Fr → St → Option (Int32 × St) := M1 (fun f => (sI (sR fr0 0 (gR f 0)) 1 (gI f 1))) BX12_whyNow
theorem kX12_whyNow : SND yX12_whyNow cX12_whyNow 5 (some .int) 3 [(0, 2), (1, 0)] cvoI DX12_whyNow := snd_I (nw := 2) (by decide) rfl rfl (fun _ _ => rfl) sBX12_whyNow
theorem dX12_does_0 : decode cX12_does 0 = .ok (.aload_n 0, 1) := by decide +kernel
theorem dX12_does_1 : decode cX12_does 1 = .ok (.iload_n 1, 1) := by decide +kernel
theorem dX12_does_2 : decode cX12_does 2 = .ok (.iconst 0, 1) := by decide +kernel
theorem dX12_does_3 : decode cX12_does 3 = .ok (.invokevirtual 326, 3) := by decide +kernel
theorem dX12_does_6 : decode cX12_does 6 = .ok (.istore_n 3, 1) := by decide +kernel
theorem dX12_does_7 : decode cX12_does 7 = .ok (.aload_n 0, 1) := by decide +kernel
theorem dX12_does_8 : decode cX12_does 8 = .ok (.iload_n 1, 1) := by decide +kernel
theorem dX12_does_9 : decode cX12_does 9 = .ok (.iconst 1, 1) := by decide +kernel
theorem dX12_does_10 : decode cX12_does 10 = .ok (.invokevirtual 326, 3) := by decide +kernel
theorem dX12_does_13 : decode cX12_does 13 = .ok (.istore 4, 2) := by decide +kernel
theorem dX12_does_15 : decode cX12_does 15 = .ok (.aload_n 0, 1) := by decide +kernel
theorem dX12_does_16 : decode cX12_does 16 = .ok (.iload_n 1, 1) := by decide +kernel
theorem dX12_does_17 : decode cX12_does 17 = .ok (.iconst 2, 1) := by decide +kernel
theorem dX12_does_18 : decode cX12_does 18 = .ok (.invokevirtual 326, 3) := by decide +kernel
theorem dX12_does_21 : decode cX12_does 21 = .ok (.istore 5, 2) := by decide +kernel
theorem dX12_does_23 : decode cX12_does 23 = .ok (.aload_n 0, 1) := by decide +kernel
theorem dX12_does_24 : decode cX12_does 24 = .ok (.dup, 1) := by decide +kernel
theorem dX12_does_25 : decode cX12_does 25 = .ok (.getfield 329, 3) := by decide +kernel
theorem dX12_does_28 : decode cX12_does 28 = .ok (.iconst 1, 1) := by decide +kernel
theorem dX12_does_29 : decode cX12_does 29 = .ok (.iload_n 3, 1) := by decide +kernel
theorem dX12_does_30 : decode cX12_does 30 = .ok (.ishl, 1) := by decide +kernel
theorem dX12_does_31 : decode cX12_does 31 = .ok (.ior, 1) := by decide +kernel
theorem dX12_does_32 : decode cX12_does 32 = .ok (.putfield 329, 3) := by decide +kernel
theorem dX12_does_35 : decode cX12_does 35 = .ok (.aload_n 0, 1) := by decide +kernel
theorem dX12_does_36 : decode cX12_does 36 = .ok (.dup, 1) := by decide +kernel
theorem dX12_does_37 : decode cX12_does 37 = .ok (.getfield 332, 3) := by decide +kernel
theorem dX12_does_40 : decode cX12_does 40 = .ok (.iconst 1, 1) := by decide +kernel
theorem dX12_does_41 : decode cX12_does 41 = .ok (.iload 4, 2) := by decide +kernel
theorem dX12_does_43 : decode cX12_does 43 = .ok (.ishl, 1) := by decide +kernel
theorem dX12_does_44 : decode cX12_does 44 = .ok (.ior, 1) := by decide +kernel
theorem dX12_does_45 : decode cX12_does 45 = .ok (.putfield 332, 3) := by decide +kernel
theorem dX12_does_48 : decode cX12_does 48 = .ok (.aload_n 0, 1) := by decide +kernel
theorem dX12_does_49 : decode cX12_does 49 = .ok (.getfield 83, 3) := by decide +kernel
theorem dX12_does_52 : decode cX12_does 52 = .ok (.iload_n 3, 1) := by decide +kernel
theorem dX12_does_53 : decode cX12_does 53 = .ok (.iload 5, 2) := by decide +kernel
theorem dX12_does_55 : decode cX12_does 55 = .ok (.iastore, 1) := by decide +kernel
theorem dX12_does_56 : decode cX12_does 56 = .ok (.aload_n 0, 1) := by decide +kernel
theorem dX12_does_57 : decode cX12_does 57 = .ok (.getfield 86, 3) := by decide +kernel
theorem dX12_does_60 : decode cX12_does 60 = .ok (.iload 4, 2) := by decide +kernel
theorem dX12_does_62 : decode cX12_does 62 = .ok (.iload 5, 2) := by decide +kernel
theorem dX12_does_64 : decode cX12_does 64 = .ok (.iastore, 1) := by decide +kernel
theorem dX12_does_65 : decode cX12_does 65 = .ok (.aload_n 0, 1) := by decide +kernel
theorem dX12_does_66 : decode cX12_does 66 = .ok (.getfield 313, 3) := by decide +kernel
theorem dX12_does_69 : decode cX12_does 69 = .ok (.iload_n 2, 1) := by decide +kernel
theorem dX12_does_70 : decode cX12_does 70 = .ok (.invokestatic 322, 3) := by decide +kernel
theorem dX12_does_73 : decode cX12_does 73 = .ok (.ifCond .eq 24, 3) := by decide +kernel
theorem dX12_does_76 : decode cX12_does 76 = .ok (.aload_n 0, 1) := by decide +kernel
theorem dX12_does_77 : decode cX12_does 77 = .ok (.getfield 89, 3) := by decide +kernel
theorem dX12_does_80 : decode cX12_does 80 = .ok (.iload 4, 2) := by decide +kernel
theorem dX12_does_82 : decode cX12_does 82 = .ok (.aload_n 0, 1) := by decide +kernel
theorem dX12_does_83 : decode cX12_does 83 = .ok (.iload 4, 2) := by decide +kernel
theorem dX12_does_85 : decode cX12_does 85 = .ok (.aload_n 0, 1) := by decide +kernel
theorem dX12_does_86 : decode cX12_does 86 = .ok (.getfield 89, 3) := by decide +kernel
theorem dX12_does_89 : decode cX12_does 89 = .ok (.iload 4, 2) := by decide +kernel
theorem dX12_does_91 : decode cX12_does 91 = .ok (.iaload, 1) := by decide +kernel
theorem dX12_does_92 : decode cX12_does 92 = .ok (.iconst 1, 1) := by decide +kernel
theorem dX12_does_93 : decode cX12_does 93 = .ok (.invokevirtual 344, 3) := by decide +kernel
theorem dX12_does_96 : decode cX12_does 96 = .ok (.iastore, 1) := by decide +kernel
theorem dX12_does_97 : decode cX12_does 97 = .ok (.aload_n 0, 1) := by decide +kernel
theorem dX12_does_98 : decode cX12_does 98 = .ok (.getfield 95, 3) := by decide +kernel
theorem dX12_does_101 : decode cX12_does 101 = .ok (.bipush 8, 2) := by decide +kernel
theorem dX12_does_103 : decode cX12_does 103 = .ok (.iload 4, 2) := by decide +kernel
theorem dX12_does_105 : decode cX12_does 105 = .ok (.imul, 1) := by decide +kernel
theorem dX12_does_106 : decode cX12_does 106 = .ok (.iload 5, 2) := by decide +kernel
theorem dX12_does_108 : decode cX12_does 108 = .ok (.iadd, 1) := by decide +kernel
theorem dX12_does_109 : decode cX12_does 109 = .ok (.dup2, 1) := by decide +kernel
theorem dX12_does_110 : decode cX12_does 110 = .ok (.iaload, 1) := by decide +kernel
theorem dX12_does_111 : decode cX12_does 111 = .ok (.aload_n 0, 1) := by decide +kernel
theorem dX12_does_112 : decode cX12_does 112 = .ok (.getfield 89, 3) := by decide +kernel
theorem dX12_does_115 : decode cX12_does 115 = .ok (.iload 4, 2) := by decide +kernel
theorem dX12_does_117 : decode cX12_does 117 = .ok (.iaload, 1) := by decide +kernel
theorem dX12_does_118 : decode cX12_does 118 = .ok (.ior, 1) := by decide +kernel
theorem dX12_does_119 : decode cX12_does 119 = .ok (.iastore, 1) := by decide +kernel
theorem dX12_does_120 : decode cX12_does 120 = .ok (.aload_n 0, 1) := by decide +kernel
theorem dX12_does_121 : decode cX12_does 121 = .ok (.getfield 104, 3) := by decide +kernel
theorem dX12_does_124 : decode cX12_does 124 = .ok (.iload_n 1, 1) := by decide +kernel
theorem dX12_does_125 : decode cX12_does 125 = .ok (.aload_n 0, 1) := by decide +kernel
theorem dX12_does_126 : decode cX12_does 126 = .ok (.getfield 89, 3) := by decide +kernel
theorem dX12_does_129 : decode cX12_does 129 = .ok (.iload 4, 2) := by decide +kernel
theorem dX12_does_131 : decode cX12_does 131 = .ok (.iaload, 1) := by decide +kernel
theorem dX12_does_132 : decode cX12_does 132 = .ok (.iastore, 1) := by decide +kernel
theorem dX12_does_133 : decode cX12_does 133 = .ok (.aload_n 0, 1) := by decide +kernel
theorem dX12_does_134 : decode cX12_does 134 = .ok (.getfield 92, 3) := by decide +kernel
theorem dX12_does_137 : decode cX12_does 137 = .ok (.iload 4, 2) := by decide +kernel
theorem dX12_does_139 : decode cX12_does 139 = .ok (.iaload, 1) := by decide +kernel
theorem dX12_does_140 : decode cX12_does 140 = .ok (.iload 5, 2) := by decide +kernel
theorem dX12_does_142 : decode cX12_does 142 = .ok (.invokestatic 322, 3) := by decide +kernel
theorem dX12_does_145 : decode cX12_does 145 = .ok (.ifCond .ne 27, 3) := by decide +kernel
theorem dX12_does_148 : decode cX12_does 148 = .ok (.aload_n 0, 1) := by decide +kernel
theorem dX12_does_149 : decode cX12_does 149 = .ok (.getfield 89, 3) := by decide +kernel
theorem dX12_does_152 : decode cX12_does 152 = .ok (.iload 4, 2) := by decide +kernel
theorem dX12_does_154 : decode cX12_does 154 = .ok (.aload_n 0, 1) := by decide +kernel
theorem dX12_does_155 : decode cX12_does 155 = .ok (.iload 4, 2) := by decide +kernel
theorem dX12_does_157 : decode cX12_does 157 = .ok (.aload_n 0, 1) := by decide +kernel
theorem dX12_does_158 : decode cX12_does 158 = .ok (.getfield 89, 3) := by decide +kernel
theorem dX12_does_161 : decode cX12_does 161 = .ok (.iload 4, 2) := by decide +kernel
theorem dX12_does_163 : decode cX12_does 163 = .ok (.iaload, 1) := by decide +kernel
theorem dX12_does_164 : decode cX12_does 164 = .ok (.aload_n 0, 1) := by decide +kernel
theorem dX12_does_165 : decode cX12_does 165 = .ok (.getfield 310, 3) := by decide +kernel
theorem dX12_does_168 : decode cX12_does 168 = .ok (.invokevirtual 344, 3) := by decide +kernel
theorem dX12_does_171 : decode cX12_does 171 = .ok (.iastore, 1) := by decide +kernel
theorem dX12_does_172 : decode cX12_does 172 = .ok (.aload_n 0, 1) := by decide +kernel
theorem dX12_does_173 : decode cX12_does 173 = .ok (.getfield 92, 3) := by decide +kernel
theorem dX12_does_176 : decode cX12_does 176 = .ok (.iload 4, 2) := by decide +kernel
theorem dX12_does_178 : decode cX12_does 178 = .ok (.dup2, 1) := by decide +kernel
theorem dX12_does_179 : decode cX12_does 179 = .ok (.iaload, 1) := by decide +kernel
theorem dX12_does_180 : decode cX12_does 180 = .ok (.iconst 1, 1) := by decide +kernel
theorem dX12_does_181 : decode cX12_does 181 = .ok (.iload 5, 2) := by decide +kernel
theorem dX12_does_183 : decode cX12_does 183 = .ok (.ishl, 1) := by decide +kernel
theorem dX12_does_184 : decode cX12_does 184 = .ok (.ior, 1) := by decide +kernel
theorem dX12_does_185 : decode cX12_does 185 = .ok (.iastore, 1) := by decide +kernel
theorem dX12_does_186 : decode cX12_does 186 = .ok (.return_, 1) := by decide +kernel
theorem mokX12_does : MOK yX12_does cX12_does 6 none 2 := ⟨w8_169, w1_13, ⟨by decide, by decide⟩, by decide +kernel, by decide⟩
abbrev miX12_does : MI := (yX12_does.cls, cX12_does, 6, 3, false)
noncomputable def BX12_does : Sm Unit := (dSeq (dSetI 3 (dCallV 12 DX12_carryPart (aI (aI (aR aN 0 (vR 0)) 1 (vI 1)) 2 (cI 0)))) (dSeq (dSetI 4 (dCallV 12 DX12_carryPart (aI (aI (aR aN 0 (vR 0)) 1 (vI 1)) 2 (cI 1)))) (dSeq (dSetI 5 (dCallV 12 DX12_carryPart (aI (aI (aR aN 0 (vR 0)) 1 (vI 1)) 2 (cI 2)))) (dSeq (dUF 12 45 o_ior (vR 0) (d2 o_ishl (cI 1) (vI 3))) (dSeq (dUF 12 46 o_ior (vR 0) (d2 o_ishl (cI 1) (vI 4))) (dSeq (d3 (stI 13 idI) (dGR 12 37 (vR 0)) (vI 3) (vI 5)) (dSeq (d3 (stI 13 idI) (dGR 12 38 (vR 0)) (vI 4) (vI 5)) (dSeq (dIf (dCZ q_ne (dCall DX12_isBit (aI (aI aN 0 (dGI 12 28 (vR 0))) 1 (vI 2)))) (d3 (stI 13 idI) (dGR 12 39 (vR 0)) (vI 4) (dCallV 12 DX12_rubs (aI (aI (aI (aR aN 0 (vR 0)) 1 (vI 4)) 2 (dAI (dGR 12 39 (vR 0)) (vI 4))) 3 (cI 1)))) dSkip) (dSeq (dUA o_ior (dGR 12 41 (vR 0)) (d2 o_iadd (d2 o_imul (cI 8) (vI 4)) (vI 5)) (dAI (dGR 12 39 (vR 0)) (vI 4))) (dSeq (d3 (stI 13 idI) (dGR 12 44 (vR 0)) (vI 1) (dAI (dGR 12 39 (vR 0)) (vI 4))) (dSeq (dIf (dNot (dCZ q_ne (dCall DX12_isBit (aI (aI aN 0 (dAI (dGR 12 40 (vR 0)) (vI 4))) 1 (vI 5))))) (d3 (stI 13 idI) (dGR 12 39 (vR 0)) (vI 4) (dCallV 12 DX12_rubs (aI (aI (aI (aR aN 0 (vR 0)) 1 (vI 4)) 2 (dAI (dGR 12 39 (vR 0)) (vI 4))) 3 (dGI 12 27 (vR 0))))) dSkip) (dSeq (dUA o_ior (dGR 12 40 (vR 0)) (vI 4) (d2 o_ishl (cI 1) (vI 5))) dRet0))))))))))))
theorem sBX12_does : SS (cvoV, .return_) miX12_does [] [] [] [(0, 2), (1, 0), (2, 0)] [(0, 2), (1, 0), (2, 0)] 0 [] BX12_does := (t_sq (p1 := 7) (Γ' := [(0, 2), (1, 0), (2, 0), (3, 0)]) (t_istore_n (s_of_xI (x_callV (ts := [(0, 2), (1, 0), (2, 0)]) ck12 rfl kX12_carryPart mokX12_carryPart w8_156 ps6_1 rfl rfl rfl rfl (a_I (ts := [(0, 2), (1, 0)]) 2 (a_I (ts := [(0, 2)]) 1 (a_R (ts := []) 0 a_nil (s_aload_n dX12_does_0 rfl rfl) rfl) (s_iload_n dX12_does_1 rfl rfl) rfl) (s_iconst dX12_does_2 rfl) rfl) dX12_does_3 w8_154)) dX12_does_6 rfl rfl rfl) (t_sq (p1 := 15) (Γ' := [(0, 2), (1, 0), (2, 0), (3, 0), (4, 0)]) (t_istore (s_of_xI (x_callV (ts := [(0, 2), (1, 0), (2, 0)]) ck12 rfl kX12_carryPart mokX12_carryPart w8_156 ps6_1 rfl rfl rfl rfl (a_I (ts := [(0, 2), (1, 0)]) 2 (a_I (ts := [(0, 2)]) 1 (a_R (ts := []) 0 a_nil (s_aload_n dX12_does_7 rfl rfl) rfl) (s_iload_n dX12_does_8 rfl rfl) rfl) (s_iconst dX12_does_9 rfl) rfl) dX12_does_10 w8_154)) dX12_does_13 rfl rfl) (t_sq (p1 := 23) (Γ' := [(0, 2), (1, 0), (2, 0), (3, 0), (4, 0), (5, 0)]) (t_istore (s_of_xI (x_callV (ts := [(0, 2), (1, 0), (2, 0)]) ck12 rfl kX12_carryPart mokX12_carryPart w8_156 ps6_1 rfl rfl rfl rfl (a_I (ts := [(0, 2), (1, 0)]) 2 (a_I (ts := [(0, 2)]) 1 (a_R (ts := []) 0 a_nil (s_aload_n dX12_does_15 rfl rfl) rfl) (s_iload_n dX12_does_16 rfl rfl) rfl) (s_iconst dX12_does_17 rfl) rfl) dX12_does_18 w8_154)) dX12_does_21 rfl rfl) (t_sq (p1 := 35) (Γ' := [(0, 2), (1, 0), (2, 0), (3, 0), (4, 0), (5, 0)]) (t_UF ck12 45 (by decide) rfl (Or.inl rfl) (s_aload_n dX12_does_23 rfl rfl) dX12_does_24 dX12_does_25 w7_10 (s_ishl (s_iconst dX12_does_28 rfl) (s_iload_n dX12_does_29 rfl rfl) dX12_does_30) (fun _ _ _ _ => rulI fun a b K => lv_ior a b dX12_does_31 K) dX12_does_32 w7_10 rfl) (t_sq (p1 := 48) (Γ' := [(0, 2), (1, 0), (2, 0), (3, 0), (4, 0), (5, 0)]) (t_UF ck12 46 (by decide) rfl (Or.inl rfl) (s_aload_n dX12_does_35 rfl rfl) dX12_does_36 dX12_does_37 w7_11 (s_ishl (s_iconst dX12_does_40 rfl) (s_iload dX12_does_41 rfl) dX12_does_43) (fun _ _ _ _ => rulI fun a b K => lv_ior a b dX12_does_44 K) dX12_does_45 w7_11 rfl) (t_sq (p1 := 56) (Γ' := [(0, 2), (1, 0), (2, 0), (3, 0), (4, 0), (5, 0)]) (t_stI (s_getR ck12 37 (by decide) rfl (s_aload_n dX12_does_48 rfl rfl) dX12_does_49 w7_2) (s_iload_n dX12_does_52 rfl rfl) (s_iload dX12_does_53 rfl) dX12_does_55 rfl) (t_sq (p1 := 65) (Γ' := [(0, 2), (1, 0), (2, 0), (3, 0), (4, 0), (5, 0)]) (t_stI (s_getR ck12 38 (by decide) rfl (s_aload_n dX12_does_56 rfl rfl) dX12_does_57 w7_3) (s_iload dX12_does_60 rfl) (s_iload dX12_does_62 rfl) dX12_does_64 rfl) (t_sq (p1 := 97) (Γ' := [(0, 2), (1, 0), (2, 0), (3, 0), (4, 0), (5, 0)]) (t_if (pT := 76) (pF := 97) (X := [97]) (XA := [97]) (XB := [97]) (c_ne_ZF (pF := 97) (s_of_xI (x_call (ts := [(0, 0), (1, 0)]) kX12_isBit mokX12_isBit w8_104 rfl rfl rfl (a_I (ts := [(0, 0)]) 1 (a_I (ts := []) 0 a_nil (s_getI ck12 28 (by decide) rfl (s_aload_n dX12_does_65 rfl rfl) dX12_does_66 w6_233) rfl) (s_iload_n dX12_does_69 rfl rfl) rfl) dX12_does_70 w8_103)) dX12_does_73 rfl) (t_stI (s_getR ck12 39 (by decide) rfl (s_aload_n dX12_does_76 rfl rfl) dX12_does_77 w7_4) (s_iload dX12_does_80 rfl) (s_of_xI (x_callV (ts := [(0, 2), (1, 0), (2, 0), (3, 0)]) ck12 rfl kX12_rubs mokX12_rubs w8_172 ps6_5 rfl rfl rfl rfl (a_I (ts := [(0, 2), (1, 0), (2, 0)]) 3 (a_I (ts := [(0, 2), (1, 0)]) 2 (a_I (ts := [(0, 2)]) 1 (a_R (ts := []) 0 a_nil (s_aload_n dX12_does_82 rfl rfl) rfl) (s_iload dX12_does_83 rfl) rfl) (s_dAI (s_getR ck12 39 (by decide) rfl (s_aload_n dX12_does_85 rfl rfl) dX12_does_86 w7_4) (s_iload dX12_does_89 rfl) dX12_does_91) rfl) (s_iconst dX12_does_92 rfl) rfl) dX12_does_93 w8_170)) dX12_does_96 rfl) (t_skip (ld_in rfl) rfl) (lda_cons (ld_in rfl) lda_nil) (lda_cons (ld_in rfl) lda_nil)) (t_sq (p1 := 120) (Γ' := [(0, 2), (1, 0), (2, 0), (3, 0), (4, 0), (5, 0)]) (t_UA (s_getR ck12 41 (by decide) rfl (s_aload_n dX12_does_97 rfl rfl) dX12_does_98 w7_6) (s_iadd (s_imul (s_bipush dX12_does_101 rfl) (s_iload dX12_does_103 rfl) dX12_does_105) (s_iload dX12_does_106 rfl) dX12_does_108) dX12_does_109 dX12_does_110 (s_dAI (s_getR ck12 39 (by decide) rfl (s_aload_n dX12_does_111 rfl rfl) dX12_does_112 w7_4) (s_iload dX12_does_115 rfl) dX12_does_117) (fun _ _ _ _ => rulI fun a b K => lv_ior a b dX12_does_118 K) dX12_does_119 rfl) (t_sq (p1 := 133) (Γ' := [(0, 2), (1, 0), (2, 0), (3, 0), (4, 0), (5, 0)]) (t_stI (s_getR ck12 44 (by decide) rfl (s_aload_n dX12_does_120 rfl rfl) dX12_does_121 w7_9) (s_iload_n dX12_does_124 rfl rfl) (s_dAI (s_getR ck12 39 (by decide) rfl (s_aload_n dX12_does_125 rfl rfl) dX12_does_126 w7_4) (s_iload dX12_does_129 rfl) dX12_does_131) dX12_does_132 rfl) (t_sq (p1 := 172) (Γ' := [(0, 2), (1, 0), (2, 0), (3, 0), (4, 0), (5, 0)]) (t_if (pT := 148) (pF := 172) (X := [172]) (XA := [172]) (XB := [172]) (c_not (pT := 148) (pF := 172) (c_ne_ZJ (pT := 172) (s_of_xI (x_call (ts := [(0, 0), (1, 0)]) kX12_isBit mokX12_isBit w8_104 rfl rfl rfl (a_I (ts := [(0, 0)]) 1 (a_I (ts := []) 0 a_nil (s_dAI (s_getR ck12 40 (by decide) rfl (s_aload_n dX12_does_133 rfl rfl) dX12_does_134 w7_5) (s_iload dX12_does_137 rfl) dX12_does_139) rfl) (s_iload dX12_does_140 rfl) rfl) dX12_does_142 w8_103)) dX12_does_145 rfl)) (t_stI (s_getR ck12 39 (by decide) rfl (s_aload_n dX12_does_148 rfl rfl) dX12_does_149 w7_4) (s_iload dX12_does_152 rfl) (s_of_xI (x_callV (ts := [(0, 2), (1, 0), (2, 0), (3, 0)]) ck12 rfl kX12_rubs mokX12_rubs w8_172 ps6_5 rfl rfl rfl rfl (a_I (ts := [(0, 2), (1, 0), (2, 0)]) 3 (a_I (ts := [(0, 2), (1, 0)]) 2 (a_I (ts := [(0, 2)]) 1 (a_R (ts := []) 0 a_nil (s_aload_n dX12_does_154 rfl rfl) rfl) (s_iload dX12_does_155 rfl) rfl) (s_dAI (s_getR ck12 39 (by decide) rfl (s_aload_n dX12_does_157 rfl rfl) dX12_does_158 w7_4) (s_iload dX12_does_161 rfl) dX12_does_163) rfl) (s_getI ck12 27 (by decide) rfl (s_aload_n dX12_does_164 rfl rfl) dX12_does_165 w6_232) rfl) dX12_does_168 w8_170)) dX12_does_171 rfl) (t_skip (ld_in rfl) rfl) (lda_cons (ld_in rfl) lda_nil) (lda_cons (ld_in rfl) lda_nil)) (t_sq (p1 := 186) (Γ' := [(0, 2), (1, 0), (2, 0), (3, 0), (4, 0), (5, 0)]) (t_UA (s_getR ck12 40 (by decide) rfl (s_aload_n dX12_does_172 rfl rfl) dX12_does_173 w7_5) (s_iload dX12_does_176 rfl) dX12_does_178 dX12_does_179 (s_ishl (s_iconst dX12_does_180 rfl) (s_iload dX12_does_181 rfl) dX12_does_183) (fun _ _ _ _ => rulI fun a b K => lv_ior a b dX12_does_184 K) dX12_does_185 rfl) (t_ret0 (fun _ _ => rfl) dX12_does_186)))))))))))))
noncomputable def DX12_does : Fr → St → Option (Unit × St) := M1 (fun f => (sI (sI (sR fr0 0 (gR f 0)) 1 (gI f 1)) 2 (gI f 2))) BX12_does
theorem kX12_does : SND yX12_does cX12_does 6 none 3 [(0, 2), (1, 0), (2, 0)] cvoV DX12_does := snd_V (nw := 3) (by decide) (fun z => by cases z) rfl rfl (fun _ _ => rfl) sBX12_does
theorem dX12_begin_0 : decode cX12_begin 0 = .ok (.iconst 0, 1) := by decide +kernel
theorem dX12_begin_1 : decode cX12_begin 1 = .ok (.istore_n 1, 1) := by decide +kernel
theorem dX12_begin_2 : decode cX12_begin 2 = .ok (.iload_n 1, 1) := by decide +kernel
theorem dX12_begin_3 : decode cX12_begin 3 = .ok (.aload_n 0, 1) := by decide +kernel
theorem dX12_begin_4 : decode cX12_begin 4 = .ok (.invokevirtual 295, 3) := by decide +kernel
theorem dX12_begin_7 : decode cX12_begin 7 = .ok (.if_icmp .ge 23, 3) := by decide +kernel
theorem dX12_begin_10 : decode cX12_begin 10 = .ok (.aload_n 0, 1) := by decide +kernel
theorem dX12_begin_11 : decode cX12_begin 11 = .ok (.getfield 83, 3) := by decide +kernel
theorem dX12_begin_14 : decode cX12_begin 14 = .ok (.iload_n 1, 1) := by decide +kernel
theorem dX12_begin_15 : decode cX12_begin 15 = .ok (.aload_n 0, 1) := by decide +kernel
theorem dX12_begin_16 : decode cX12_begin 16 = .ok (.getfield 43, 3) := by decide +kernel
theorem dX12_begin_19 : decode cX12_begin 19 = .ok (.iconst 2, 1) := by decide +kernel
theorem dX12_begin_20 : decode cX12_begin 20 = .ok (.iload_n 1, 1) := by decide +kernel
theorem dX12_begin_21 : decode cX12_begin 21 = .ok (.imul, 1) := by decide +kernel
theorem dX12_begin_22 : decode cX12_begin 22 = .ok (.iaload, 1) := by decide +kernel
theorem dX12_begin_23 : decode cX12_begin 23 = .ok (.iastore, 1) := by decide +kernel
theorem dX12_begin_24 : decode cX12_begin 24 = .ok (.iinc 1 1, 3) := by decide +kernel
theorem dX12_begin_27 : decode cX12_begin 27 = .ok (.goto (-25), 3) := by decide +kernel
theorem dX12_begin_30 : decode cX12_begin 30 = .ok (.iconst 0, 1) := by decide +kernel
theorem dX12_begin_31 : decode cX12_begin 31 = .ok (.istore_n 1, 1) := by decide +kernel
theorem dX12_begin_32 : decode cX12_begin 32 = .ok (.iload_n 1, 1) := by decide +kernel
theorem dX12_begin_33 : decode cX12_begin 33 = .ok (.aload_n 0, 1) := by decide +kernel
theorem dX12_begin_34 : decode cX12_begin 34 = .ok (.invokevirtual 298, 3) := by decide +kernel
theorem dX12_begin_37 : decode cX12_begin 37 = .ok (.if_icmp .ge 94, 3) := by decide +kernel
theorem dX12_begin_40 : decode cX12_begin 40 = .ok (.aload_n 0, 1) := by decide +kernel
theorem dX12_begin_41 : decode cX12_begin 41 = .ok (.getfield 86, 3) := by decide +kernel
theorem dX12_begin_44 : decode cX12_begin 44 = .ok (.iload_n 1, 1) := by decide +kernel
theorem dX12_begin_45 : decode cX12_begin 45 = .ok (.aload_n 0, 1) := by decide +kernel
theorem dX12_begin_46 : decode cX12_begin 46 = .ok (.getfield 65, 3) := by decide +kernel
theorem dX12_begin_49 : decode cX12_begin 49 = .ok (.iload_n 1, 1) := by decide +kernel
theorem dX12_begin_50 : decode cX12_begin 50 = .ok (.iaload, 1) := by decide +kernel
theorem dX12_begin_51 : decode cX12_begin 51 = .ok (.iastore, 1) := by decide +kernel
theorem dX12_begin_52 : decode cX12_begin 52 = .ok (.aload_n 0, 1) := by decide +kernel
theorem dX12_begin_53 : decode cX12_begin 53 = .ok (.getfield 89, 3) := by decide +kernel
theorem dX12_begin_56 : decode cX12_begin 56 = .ok (.iload_n 1, 1) := by decide +kernel
theorem dX12_begin_57 : decode cX12_begin 57 = .ok (.aload_n 0, 1) := by decide +kernel
theorem dX12_begin_58 : decode cX12_begin 58 = .ok (.getfield 68, 3) := by decide +kernel
theorem dX12_begin_61 : decode cX12_begin 61 = .ok (.iload_n 1, 1) := by decide +kernel
theorem dX12_begin_62 : decode cX12_begin 62 = .ok (.iaload, 1) := by decide +kernel
theorem dX12_begin_63 : decode cX12_begin 63 = .ok (.iastore, 1) := by decide +kernel
theorem dX12_begin_64 : decode cX12_begin 64 = .ok (.aload_n 0, 1) := by decide +kernel
theorem dX12_begin_65 : decode cX12_begin 65 = .ok (.getfield 92, 3) := by decide +kernel
theorem dX12_begin_68 : decode cX12_begin 68 = .ok (.iload_n 1, 1) := by decide +kernel
theorem dX12_begin_69 : decode cX12_begin 69 = .ok (.iconst 1, 1) := by decide +kernel
theorem dX12_begin_70 : decode cX12_begin 70 = .ok (.aload_n 0, 1) := by decide +kernel
theorem dX12_begin_71 : decode cX12_begin 71 = .ok (.getfield 65, 3) := by decide +kernel
theorem dX12_begin_74 : decode cX12_begin 74 = .ok (.iload_n 1, 1) := by decide +kernel
theorem dX12_begin_75 : decode cX12_begin 75 = .ok (.iaload, 1) := by decide +kernel
theorem dX12_begin_76 : decode cX12_begin 76 = .ok (.ishl, 1) := by decide +kernel
theorem dX12_begin_77 : decode cX12_begin 77 = .ok (.iastore, 1) := by decide +kernel
theorem dX12_begin_78 : decode cX12_begin 78 = .ok (.iconst 0, 1) := by decide +kernel
theorem dX12_begin_79 : decode cX12_begin 79 = .ok (.istore_n 2, 1) := by decide +kernel
theorem dX12_begin_80 : decode cX12_begin 80 = .ok (.iload_n 2, 1) := by decide +kernel
theorem dX12_begin_81 : decode cX12_begin 81 = .ok (.aload_n 0, 1) := by decide +kernel
theorem dX12_begin_82 : decode cX12_begin 82 = .ok (.invokevirtual 292, 3) := by decide +kernel
theorem dX12_begin_85 : decode cX12_begin 85 = .ok (.if_icmp .ge 40, 3) := by decide +kernel
theorem dX12_begin_88 : decode cX12_begin 88 = .ok (.aload_n 0, 1) := by decide +kernel
theorem dX12_begin_89 : decode cX12_begin 89 = .ok (.getfield 95, 3) := by decide +kernel
theorem dX12_begin_92 : decode cX12_begin 92 = .ok (.bipush 8, 2) := by decide +kernel
theorem dX12_begin_94 : decode cX12_begin 94 = .ok (.iload_n 1, 1) := by decide +kernel
theorem dX12_begin_95 : decode cX12_begin 95 = .ok (.imul, 1) := by decide +kernel
theorem dX12_begin_96 : decode cX12_begin 96 = .ok (.iload_n 2, 1) := by decide +kernel
theorem dX12_begin_97 : decode cX12_begin 97 = .ok (.iadd, 1) := by decide +kernel
theorem dX12_begin_98 : decode cX12_begin 98 = .ok (.iload_n 2, 1) := by decide +kernel
theorem dX12_begin_99 : decode cX12_begin 99 = .ok (.aload_n 0, 1) := by decide +kernel
theorem dX12_begin_100 : decode cX12_begin 100 = .ok (.getfield 65, 3) := by decide +kernel
theorem dX12_begin_103 : decode cX12_begin 103 = .ok (.iload_n 1, 1) := by decide +kernel
theorem dX12_begin_104 : decode cX12_begin 104 = .ok (.iaload, 1) := by decide +kernel
theorem dX12_begin_105 : decode cX12_begin 105 = .ok (.if_icmp .ne 12, 3) := by decide +kernel
theorem dX12_begin_108 : decode cX12_begin 108 = .ok (.aload_n 0, 1) := by decide +kernel
theorem dX12_begin_109 : decode cX12_begin 109 = .ok (.getfield 89, 3) := by decide +kernel
theorem dX12_begin_112 : decode cX12_begin 112 = .ok (.iload_n 1, 1) := by decide +kernel
theorem dX12_begin_113 : decode cX12_begin 113 = .ok (.iaload, 1) := by decide +kernel
theorem dX12_begin_114 : decode cX12_begin 114 = .ok (.goto 4, 3) := by decide +kernel
theorem dX12_begin_117 : decode cX12_begin 117 = .ok (.iconst 0, 1) := by decide +kernel
theorem dX12_begin_118 : decode cX12_begin 118 = .ok (.iastore, 1) := by decide +kernel
theorem dX12_begin_119 : decode cX12_begin 119 = .ok (.iinc 2 1, 3) := by decide +kernel
theorem dX12_begin_122 : decode cX12_begin 122 = .ok (.goto (-42), 3) := by decide +kernel
theorem dX12_begin_125 : decode cX12_begin 125 = .ok (.iinc 1 1, 3) := by decide +kernel
theorem dX12_begin_128 : decode cX12_begin 128 = .ok (.goto (-96), 3) := by decide +kernel
theorem dX12_begin_131 : decode cX12_begin 131 = .ok (.iconst 0, 1) := by decide +kernel
theorem dX12_begin_132 : decode cX12_begin 132 = .ok (.istore_n 1, 1) := by decide +kernel
theorem dX12_begin_133 : decode cX12_begin 133 = .ok (.iload_n 1, 1) := by decide +kernel
theorem dX12_begin_134 : decode cX12_begin 134 = .ok (.aload_n 0, 1) := by decide +kernel
theorem dX12_begin_135 : decode cX12_begin 135 = .ok (.invokevirtual 348, 3) := by decide +kernel
theorem dX12_begin_138 : decode cX12_begin 138 = .ok (.if_icmp .ge 30, 3) := by decide +kernel
theorem dX12_begin_141 : decode cX12_begin 141 = .ok (.aload_n 0, 1) := by decide +kernel
theorem dX12_begin_142 : decode cX12_begin 142 = .ok (.getfield 98, 3) := by decide +kernel
theorem dX12_begin_145 : decode cX12_begin 145 = .ok (.iload_n 1, 1) := by decide +kernel
theorem dX12_begin_146 : decode cX12_begin 146 = .ok (.iconst 1, 1) := by decide +kernel
theorem dX12_begin_147 : decode cX12_begin 147 = .ok (.iastore, 1) := by decide +kernel
theorem dX12_begin_148 : decode cX12_begin 148 = .ok (.aload_n 0, 1) := by decide +kernel
theorem dX12_begin_149 : decode cX12_begin 149 = .ok (.getfield 101, 3) := by decide +kernel
theorem dX12_begin_152 : decode cX12_begin 152 = .ok (.iload_n 1, 1) := by decide +kernel
theorem dX12_begin_153 : decode cX12_begin 153 = .ok (.iconst 0, 1) := by decide +kernel
theorem dX12_begin_154 : decode cX12_begin 154 = .ok (.iastore, 1) := by decide +kernel
theorem dX12_begin_155 : decode cX12_begin 155 = .ok (.aload_n 0, 1) := by decide +kernel
theorem dX12_begin_156 : decode cX12_begin 156 = .ok (.getfield 104, 3) := by decide +kernel
theorem dX12_begin_159 : decode cX12_begin 159 = .ok (.iload_n 1, 1) := by decide +kernel
theorem dX12_begin_160 : decode cX12_begin 160 = .ok (.iconst 0, 1) := by decide +kernel
theorem dX12_begin_161 : decode cX12_begin 161 = .ok (.iastore, 1) := by decide +kernel
theorem dX12_begin_162 : decode cX12_begin 162 = .ok (.iinc 1 1, 3) := by decide +kernel
theorem dX12_begin_165 : decode cX12_begin 165 = .ok (.goto (-32), 3) := by decide +kernel
theorem dX12_begin_168 : decode cX12_begin 168 = .ok (.return_, 1) := by decide +kernel
theorem mokX12_begin : MOK yX12_begin cX12_begin 3 none 0 := ⟨w8_149, w1_13, ⟨by decide, by decide⟩, by decide +kernel, by decide⟩
abbrev miX12_begin : MI := (yX12_begin.cls, cX12_begin, 3, 2, false)
noncomputable def LX12_begin_1 : Sm Unit := dLoop (fun f => (sI (sR fr0 0 (gR f 0)) 1 (gI f 1))) (dCI r_lt (vI 1) (dCallV 12 DX12_carriers (aR aN 0 (vR 0)))) (d3 (stI 13 idI) (dGR 12 37 (vR 0)) (vI 1) (dAI (dGR 12 20 (vR 0)) (d2 o_imul (cI 2) (vI 1)))) (dInc 1 1)
theorem sLX12_begin_1 {ΓL : Gm} {PB PK : List Nat} : SS (cvoV, .return_) miX12_begin ΓL PB PK [(0, 2), (1, 0)] [(0, 2), (1, 0)] 2 [30] LX12_begin_1 := t_loop (pT := 10) (pF := 30) (pu := 24) (PB' := []) (PK' := []) (XB := [24]) (XU := [27]) (fun _ _ => rfl) rfl (c_lt_F (pF := 30) (s_iload_n dX12_begin_2 rfl rfl) (s_of_xI (x_callV (ts := [(0, 2)]) ck12 rfl kX12_carriers mokX12_carriers w8_74 ps5_3 rfl rfl rfl rfl (a_R (ts := []) 0 a_nil (s_aload_n dX12_begin_3 rfl rfl) rfl) dX12_begin_4 w8_72)) dX12_begin_7 rfl) (t_stI (s_getR ck12 37 (by decide) rfl (s_aload_n dX12_begin_10 rfl rfl) dX12_begin_11 w7_2) (s_iload_n dX12_begin_14 rfl rfl) (s_dAI (s_getR ck12 20 (by decide) rfl (s_aload_n dX12_begin_15 rfl rfl) dX12_begin_16 w6_225) (s_imul (s_iconst dX12_begin_19 rfl) (s_iload_n dX12_begin_20 rfl rfl) dX12_begin_21) dX12_begin_22) dX12_begin_23 rfl) (t_iinc dX12_begin_24 rfl rfl rfl rfl) (lda_cons (ld_in rfl) lda_nil) lda_nil (lda_cons (ld_goto (y := 2) dX12_begin_27 rfl (ld_in rfl)) lda_nil) (ld_in rfl) lda_nil
noncomputable def LX12_begin_2 : Sm Unit := dLoop (fun f => (sI (sI (sR fr0 0 (gR f 0)) 1 (gI f 1)) 2 (gI f 2))) (dCI r_lt (vI 2) (dCallV 12 DX12_houses (aR aN 0 (vR 0)))) (d3 (stI 13 idI) (dGR 12 41 (vR 0)) (d2 o_iadd (d2 o_imul (cI 8) (vI 1)) (vI 2)) (dT (dCI r_eq (vI 2) (dAI (dGR 12 31 (vR 0)) (vI 1))) (dAI (dGR 12 39 (vR 0)) (vI 1)) (cI 0))) (dInc 2 1)
theorem sLX12_begin_2 {ΓL : Gm} {PB PK : List Nat} : SS (cvoV, .return_) miX12_begin ΓL PB PK [(0, 2), (1, 0), (2, 0)] [(0, 2), (1, 0), (2, 0)] 80 [125] LX12_begin_2 := t_loop (pT := 88) (pF := 125) (pu := 119) (PB' := []) (PK' := []) (XB := [119]) (XU := [122]) (fun _ _ => rfl) rfl (c_lt_F (pF := 125) (s_iload_n dX12_begin_80 rfl rfl) (s_of_xI (x_callV (ts := [(0, 2)]) ck12 rfl kX12_houses mokX12_houses w8_62 ps5_1 rfl rfl rfl rfl (a_R (ts := []) 0 a_nil (s_aload_n dX12_begin_81 rfl rfl) rfl) dX12_begin_82 w8_60)) dX12_begin_85 rfl) (t_stI (s_getR ck12 41 (by decide) rfl (s_aload_n dX12_begin_88 rfl rfl) dX12_begin_89 w7_6) (s_iadd (s_imul (s_bipush dX12_begin_92 rfl) (s_iload_n dX12_begin_94 rfl rfl) dX12_begin_95) (s_iload_n dX12_begin_96 rfl rfl) dX12_begin_97) (s_T (pT := 108) (pF := 117) (p1 := 114) (pe := 118) (c_eq_F (pF := 117) (s_iload_n dX12_begin_98 rfl rfl) (s_dAI (s_getR ck12 31 (by decide) rfl (s_aload_n dX12_begin_99 rfl rfl) dX12_begin_100 w6_236) (s_iload_n dX12_begin_103 rfl rfl) dX12_begin_104) dX12_begin_105 rfl) (s_dAI (s_getR ck12 39 (by decide) rfl (s_aload_n dX12_begin_108 rfl rfl) dX12_begin_109 w7_4) (s_iload_n dX12_begin_112 rfl rfl) dX12_begin_113) (s_iconst dX12_begin_117 rfl) (ld_goto (y := 118) dX12_begin_114 rfl (ld_in rfl))) dX12_begin_118 rfl) (t_iinc dX12_begin_119 rfl rfl rfl rfl) (lda_cons (ld_in rfl) lda_nil) lda_nil (lda_cons (ld_goto (y := 80) dX12_begin_122 rfl (ld_in rfl)) lda_nil) (ld_in rfl) lda_nil
noncomputable def LX12_begin_3 : Sm Unit := dLoop (fun f => (sI (sR fr0 0 (gR f 0)) 1 (gI f 1))) (dCI r_lt (vI 1) (dCallV 12 DX12_slates (aR aN 0 (vR 0)))) (dSeq (d3 (stI 13 idI) (dGR 12 38 (vR 0)) (vI 1) (dAI (dGR 12 31 (vR 0)) (vI 1))) (dSeq (d3 (stI 13 idI) (dGR 12 39 (vR 0)) (vI 1) (dAI (dGR 12 32 (vR 0)) (vI 1))) (dSeq (d3 (stI 13 idI) (dGR 12 40 (vR 0)) (vI 1) (d2 o_ishl (cI 1) (dAI (dGR 12 31 (vR 0)) (vI 1)))) (dSeq (dSetI 2 (cI 0)) LX12_begin_2)))) (dInc 1 1)
theorem sLX12_begin_3 {ΓL : Gm} {PB PK : List Nat} : SS (cvoV, .return_) miX12_begin ΓL PB PK [(0, 2), (1, 0)] [(0, 2), (1, 0)] 32 [131] LX12_begin_3 := t_loop (pT := 40) (pF := 131) (pu := 125) (PB' := []) (PK' := []) (XB := [125]) (XU := [128]) (fun _ _ => rfl) rfl (c_lt_F (pF := 131) (s_iload_n dX12_begin_32 rfl rfl) (s_of_xI (x_callV (ts := [(0, 2)]) ck12 rfl kX12_slates mokX12_slates w8_89 ps5_5 rfl rfl rfl rfl (a_R (ts := []) 0 a_nil (s_aload_n dX12_begin_33 rfl rfl) rfl) dX12_begin_34 w8_87)) dX12_begin_37 rfl) (t_sq (p1 := 52) (Γ' := [(0, 2), (1, 0)]) (t_stI (s_getR ck12 38 (by decide) rfl (s_aload_n dX12_begin_40 rfl rfl) dX12_begin_41 w7_3) (s_iload_n dX12_begin_44 rfl rfl) (s_dAI (s_getR ck12 31 (by decide) rfl (s_aload_n dX12_begin_45 rfl rfl) dX12_begin_46 w6_236) (s_iload_n dX12_begin_49 rfl rfl) dX12_begin_50) dX12_begin_51 rfl) (t_sq (p1 := 64) (Γ' := [(0, 2), (1, 0)]) (t_stI (s_getR ck12 39 (by decide) rfl (s_aload_n dX12_begin_52 rfl rfl) dX12_begin_53 w7_4) (s_iload_n dX12_begin_56 rfl rfl) (s_dAI (s_getR ck12 32 (by decide) rfl (s_aload_n dX12_begin_57 rfl rfl) dX12_begin_58 w6_237) (s_iload_n dX12_begin_61 rfl rfl) dX12_begin_62) dX12_begin_63 rfl) (t_sq (p1 := 78) (Γ' := [(0, 2), (1, 0)]) (t_stI (s_getR ck12 40 (by decide) rfl (s_aload_n dX12_begin_64 rfl rfl) dX12_begin_65 w7_5) (s_iload_n dX12_begin_68 rfl rfl) (s_ishl (s_iconst dX12_begin_69 rfl) (s_dAI (s_getR ck12 31 (by decide) rfl (s_aload_n dX12_begin_70 rfl rfl) dX12_begin_71 w6_236) (s_iload_n dX12_begin_74 rfl rfl) dX12_begin_75) dX12_begin_76) dX12_begin_77 rfl) (t_sq (p1 := 80) (Γ' := [(0, 2), (1, 0), (2, 0)]) (t_istore_n (s_iconst dX12_begin_78 rfl) dX12_begin_79 rfl rfl rfl) (tn_to (Γ' := [(0, 2), (1, 0), (2, 0)]) (XA := [125]) sLX12_begin_2 (lda_cons (ld_in rfl) lda_nil) rfl))))) (t_iinc dX12_begin_125 rfl rfl rfl rfl) (lda_cons (ld_in rfl) lda_nil) lda_nil (lda_cons (ld_goto (y := 32) dX12_begin_128 rfl (ld_in rfl)) lda_nil) (ld_in rfl) lda_nil
noncomputable def LX12_begin_4 : Sm Unit := dLoop (fun f => (sI (sR fr0 0 (gR f 0)) 1 (gI f 1))) (dCI r_lt (vI 1) (dCallV 12 DX12_carryMany (aR aN 0 (vR 0)))) (dSeq (d3 (stI 13 idI) (dGR 12 42 (vR 0)) (vI 1) (cI 1)) (dSeq (d3 (stI 13 idI) (dGR 12 43 (vR 0)) (vI 1) (cI 0)) (d3 (stI 13 idI) (dGR 12 44 (vR 0)) (vI 1) (cI 0)))) (dInc 1 1)
theorem sLX12_begin_4 {ΓL : Gm} {PB PK : List Nat} : SS (cvoV, .return_) miX12_begin ΓL PB PK [(0, 2), (1, 0)] [(0, 2), (1, 0)] 133 [168] LX12_begin_4 := t_loop (pT := 141) (pF := 168) (pu := 162) (PB' := []) (PK' := []) (XB := [162]) (XU := [165]) (fun _ _ => rfl) rfl (c_lt_F (pF := 168) (s_iload_n dX12_begin_133 rfl rfl) (s_of_xI (x_callV (ts := [(0, 2)]) ck12 rfl kX12_carryMany mokX12_carryMany w8_152 ps6_0 rfl rfl rfl rfl (a_R (ts := []) 0 a_nil (s_aload_n dX12_begin_134 rfl rfl) rfl) dX12_begin_135 w8_150)) dX12_begin_138 rfl) (t_sq (p1 := 148) (Γ' := [(0, 2), (1, 0)]) (t_stI (s_getR ck12 42 (by decide) rfl (s_aload_n dX12_begin_141 rfl rfl) dX12_begin_142 w7_7) (s_iload_n dX12_begin_145 rfl rfl) (s_iconst dX12_begin_146 rfl) dX12_begin_147 rfl) (t_sq (p1 := 155) (Γ' := [(0, 2), (1, 0)]) (t_stI (s_getR ck12 43 (by decide) rfl (s_aload_n dX12_begin_148 rfl rfl) dX12_begin_149 w7_8) (s_iload_n dX12_begin_152 rfl rfl) (s_iconst dX12_begin_153 rfl) dX12_begin_154 rfl) (t_stI (s_getR ck12 44 (by decide) rfl (s_aload_n dX12_begin_155 rfl rfl) dX12_begin_156 w7_9) (s_iload_n dX12_begin_159 rfl rfl) (s_iconst dX12_begin_160 rfl) dX12_begin_161 rfl))) (t_iinc dX12_begin_162 rfl rfl rfl rfl) (lda_cons (ld_in rfl) lda_nil) lda_nil (lda_cons (ld_goto (y := 133) dX12_begin_165 rfl (ld_in rfl)) lda_nil) (ld_in rfl) lda_nil
noncomputable def BX12_begin : Sm Unit := (dSeq (dSeq (dSetI 1 (cI 0)) LX12_begin_1) (dSeq (dSeq (dSetI 1 (cI 0)) LX12_begin_3) (dSeq (dSeq (dSetI 1 (cI 0)) LX12_begin_4) dRet0)))
theorem sBX12_begin : SS (cvoV, .return_) miX12_begin [] [] [] [(0, 2)] [(0, 2)] 0 [] BX12_begin := (t_sq (p1 := 30) (Γ' := [(0, 2)]) (t_sq (p1 := 2) (Γ' := [(0, 2), (1, 0)]) (t_istore_n (s_iconst dX12_begin_0 rfl) dX12_begin_1 rfl rfl rfl) (tn_to (Γ' := [(0, 2), (1, 0)]) (XA := [30]) sLX12_begin_1 (lda_cons (ld_in rfl) lda_nil) rfl)) (t_sq (p1 := 131) (Γ' := [(0, 2)]) (t_sq (p1 := 32) (Γ' := [(0, 2), (1, 0)]) (t_istore_n (s_iconst dX12_begin_30 rfl) dX12_begin_31 rfl rfl rfl) (tn_to (Γ' := [(0, 2), (1, 0)]) (XA := [131]) sLX12_begin_3 (lda_cons (ld_in rfl) lda_nil) rfl)) (t_sq (p1 := 168) (Γ' := [(0, 2)]) (t_sq (p1 := 133) (Γ' := [(0, 2), (1, 0)]) (t_istore_n (s_iconst dX12_begin_131 rfl) dX12_begin_132 rfl rfl rfl) (tn_to (Γ' := [(0, 2), (1, 0)]) (XA := [168]) sLX12_begin_4 (lda_cons (ld_in rfl) lda_nil) rfl)) (t_ret0 (fun _ _ => rfl) dX12_begin_168))))
noncomputable def DX12_begin : Fr → St → Option (Unit × St) := M1 (fun f => (sR fr0 0 (gR f 0))) BX12_begin
theorem kX12_begin : SND yX12_begin cX12_begin 3 none 2 [(0, 2)] cvoV DX12_begin := snd_V (nw := 1) (by decide) (fun z => by cases z) rfl rfl (fun _ _ => rfl) sBX12_begin
