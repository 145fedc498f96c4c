theorem dX2_carryOut_0 : decode cX2_carryOut 0 = .ok (.aload_n 1, 1) := by decide +kernel
theorem dX2_carryOut_1 : decode cX2_carryOut 1 = .ok (.getfield 87, 3) := by decide +kernel
theorem dX2_carryOut_4 : decode cX2_carryOut 4 = .ok (.getfield 122, 3) := by decide +kernel
theorem dX2_carryOut_7 : decode cX2_carryOut 7 = .ok (.iload_n 2, 1) := by decide +kernel
theorem dX2_carryOut_8 : decode cX2_carryOut 8 = .ok (.invokestatic 65, 3) := by decide +kernel
theorem dX2_carryOut_11 : decode cX2_carryOut 11 = .ok (.istore 4, 2) := by decide +kernel
theorem dX2_carryOut_13 : decode cX2_carryOut 13 = .ok (.aload_n 1, 1) := by decide +kernel
theorem dX2_carryOut_14 : decode cX2_carryOut 14 = .ok (.getfield 87, 3) := by decide +kernel
theorem dX2_carryOut_17 : decode cX2_carryOut 17 = .ok (.getfield 125, 3) := by decide +kernel
theorem dX2_carryOut_20 : decode cX2_carryOut 20 = .ok (.iload_n 2, 1) := by decide +kernel
theorem dX2_carryOut_21 : decode cX2_carryOut 21 = .ok (.invokestatic 65, 3) := by decide +kernel
theorem dX2_carryOut_24 : decode cX2_carryOut 24 = .ok (.istore 5, 2) := by decide +kernel
theorem dX2_carryOut_26 : decode cX2_carryOut 26 = .ok (.aload_n 1, 1) := by decide +kernel
theorem dX2_carryOut_27 : decode cX2_carryOut 27 = .ok (.getfield 87, 3) := by decide +kernel
theorem dX2_carryOut_30 : decode cX2_carryOut 30 = .ok (.getfield 128, 3) := by decide +kernel
theorem dX2_carryOut_33 : decode cX2_carryOut 33 = .ok (.iload_n 2, 1) := by decide +kernel
theorem dX2_carryOut_34 : decode cX2_carryOut 34 = .ok (.invokestatic 65, 3) := by decide +kernel
theorem dX2_carryOut_37 : decode cX2_carryOut 37 = .ok (.istore 6, 2) := by decide +kernel
theorem dX2_carryOut_39 : decode cX2_carryOut 39 = .ok (.aload_n 0, 1) := by decide +kernel
theorem dX2_carryOut_40 : decode cX2_carryOut 40 = .ok (.getfield 30, 3) := by decide +kernel
theorem dX2_carryOut_43 : decode cX2_carryOut 43 = .ok (.iload_n 2, 1) := by decide +kernel
theorem dX2_carryOut_44 : decode cX2_carryOut 44 = .ok (.aload_n 0, 1) := by decide +kernel
theorem dX2_carryOut_45 : decode cX2_carryOut 45 = .ok (.aload_n 1, 1) := by decide +kernel
theorem dX2_carryOut_46 : decode cX2_carryOut 46 = .ok (.iload 5, 2) := by decide +kernel
theorem dX2_carryOut_48 : decode cX2_carryOut 48 = .ok (.iload 6, 2) := by decide +kernel
theorem dX2_carryOut_50 : decode cX2_carryOut 50 = .ok (.invokevirtual 135, 3) := by decide +kernel
theorem dX2_carryOut_53 : decode cX2_carryOut 53 = .ok (.invokestatic 69, 3) := by decide +kernel
theorem dX2_carryOut_56 : decode cX2_carryOut 56 = .ok (.aload_n 0, 1) := by decide +kernel
theorem dX2_carryOut_57 : decode cX2_carryOut 57 = .ok (.dup, 1) := by decide +kernel
theorem dX2_carryOut_58 : decode cX2_carryOut 58 = .ok (.getfield 81, 3) := by decide +kernel
theorem dX2_carryOut_61 : decode cX2_carryOut 61 = .ok (.iconst 1, 1) := by decide +kernel
theorem dX2_carryOut_62 : decode cX2_carryOut 62 = .ok (.iload 4, 2) := by decide +kernel
theorem dX2_carryOut_64 : decode cX2_carryOut 64 = .ok (.ishl, 1) := by decide +kernel
theorem dX2_carryOut_65 : decode cX2_carryOut 65 = .ok (.ior, 1) := by decide +kernel
theorem dX2_carryOut_66 : decode cX2_carryOut 66 = .ok (.putfield 81, 3) := by decide +kernel
theorem dX2_carryOut_69 : decode cX2_carryOut 69 = .ok (.aload_n 0, 1) := by decide +kernel
theorem dX2_carryOut_70 : decode cX2_carryOut 70 = .ok (.dup, 1) := by decide +kernel
theorem dX2_carryOut_71 : decode cX2_carryOut 71 = .ok (.getfield 84, 3) := by decide +kernel
theorem dX2_carryOut_74 : decode cX2_carryOut 74 = .ok (.iconst 1, 1) := by decide +kernel
theorem dX2_carryOut_75 : decode cX2_carryOut 75 = .ok (.iload 5, 2) := by decide +kernel
theorem dX2_carryOut_77 : decode cX2_carryOut 77 = .ok (.ishl, 1) := by decide +kernel
theorem dX2_carryOut_78 : decode cX2_carryOut 78 = .ok (.ior, 1) := by decide +kernel
theorem dX2_carryOut_79 : decode cX2_carryOut 79 = .ok (.putfield 84, 3) := by decide +kernel
theorem dX2_carryOut_82 : decode cX2_carryOut 82 = .ok (.aload_n 0, 1) := by decide +kernel
theorem dX2_carryOut_83 : decode cX2_carryOut 83 = .ok (.getfield 9, 3) := by decide +kernel
theorem dX2_carryOut_86 : decode cX2_carryOut 86 = .ok (.iload 4, 2) := by decide +kernel
theorem dX2_carryOut_88 : decode cX2_carryOut 88 = .ok (.iload 6, 2) := by decide +kernel
theorem dX2_carryOut_90 : decode cX2_carryOut 90 = .ok (.invokestatic 69, 3) := by decide +kernel
theorem dX2_carryOut_93 : decode cX2_carryOut 93 = .ok (.aload_n 0, 1) := by decide +kernel
theorem dX2_carryOut_94 : decode cX2_carryOut 94 = .ok (.getfield 15, 3) := by decide +kernel
theorem dX2_carryOut_97 : decode cX2_carryOut 97 = .ok (.iload 5, 2) := by decide +kernel
theorem dX2_carryOut_99 : decode cX2_carryOut 99 = .ok (.iload 6, 2) := by decide +kernel
theorem dX2_carryOut_101 : decode cX2_carryOut 101 = .ok (.invokestatic 69, 3) := by decide +kernel
theorem dX2_carryOut_104 : decode cX2_carryOut 104 = .ok (.aload_n 0, 1) := by decide +kernel
theorem dX2_carryOut_105 : decode cX2_carryOut 105 = .ok (.getfield 18, 3) := by decide +kernel
theorem dX2_carryOut_108 : decode cX2_carryOut 108 = .ok (.iload 5, 2) := by decide +kernel
theorem dX2_carryOut_110 : decode cX2_carryOut 110 = .ok (.invokestatic 65, 3) := by decide +kernel
theorem dX2_carryOut_113 : decode cX2_carryOut 113 = .ok (.istore 7, 2) := by decide +kernel
theorem dX2_carryOut_115 : decode cX2_carryOut 115 = .ok (.iload_n 3, 1) := by decide +kernel
theorem dX2_carryOut_116 : decode cX2_carryOut 116 = .ok (.ifCond .eq 12, 3) := by decide +kernel
theorem dX2_carryOut_119 : decode cX2_carryOut 119 = .ok (.iload 7, 2) := by decide +kernel
theorem dX2_carryOut_121 : decode cX2_carryOut 121 = .ok (.iload 7, 2) := by decide +kernel
theorem dX2_carryOut_123 : decode cX2_carryOut 123 = .ok (.iconst 1, 1) := by decide +kernel
theorem dX2_carryOut_124 : decode cX2_carryOut 124 = .ok (.isub, 1) := by decide +kernel
theorem dX2_carryOut_125 : decode cX2_carryOut 125 = .ok (.iand, 1) := by decide +kernel
theorem dX2_carryOut_126 : decode cX2_carryOut 126 = .ok (.istore 7, 2) := by decide +kernel
theorem dX2_carryOut_128 : decode cX2_carryOut 128 = .ok (.iload 5, 2) := by decide +kernel
theorem dX2_carryOut_130 : decode cX2_carryOut 130 = .ok (.bipush 8, 2) := by decide +kernel
theorem dX2_carryOut_132 : decode cX2_carryOut 132 = .ok (.imul, 1) := by decide +kernel
theorem dX2_carryOut_133 : decode cX2_carryOut 133 = .ok (.iload 6, 2) := by decide +kernel
theorem dX2_carryOut_135 : decode cX2_carryOut 135 = .ok (.iadd, 1) := by decide +kernel
theorem dX2_carryOut_136 : decode cX2_carryOut 136 = .ok (.istore 8, 2) := by decide +kernel
theorem dX2_carryOut_138 : decode cX2_carryOut 138 = .ok (.aload_n 0, 1) := by decide +kernel
theorem dX2_carryOut_139 : decode cX2_carryOut 139 = .ok (.getfield 21, 3) := by decide +kernel
theorem dX2_carryOut_142 : decode cX2_carryOut 142 = .ok (.iload 8, 2) := by decide +kernel
theorem dX2_carryOut_144 : decode cX2_carryOut 144 = .ok (.aload_n 0, 1) := by decide +kernel
theorem dX2_carryOut_145 : decode cX2_carryOut 145 = .ok (.getfield 21, 3) := by decide +kernel
theorem dX2_carryOut_148 : decode cX2_carryOut 148 = .ok (.iload 8, 2) := by decide +kernel
theorem dX2_carryOut_150 : decode cX2_carryOut 150 = .ok (.invokestatic 65, 3) := by decide +kernel
theorem dX2_carryOut_153 : decode cX2_carryOut 153 = .ok (.iload 7, 2) := by decide +kernel
theorem dX2_carryOut_155 : decode cX2_carryOut 155 = .ok (.ior, 1) := by decide +kernel
theorem dX2_carryOut_156 : decode cX2_carryOut 156 = .ok (.invokestatic 69, 3) := by decide +kernel
theorem dX2_carryOut_159 : decode cX2_carryOut 159 = .ok (.aload_n 0, 1) := by decide +kernel
theorem dX2_carryOut_160 : decode cX2_carryOut 160 = .ok (.getfield 24, 3) := by decide +kernel
theorem dX2_carryOut_163 : decode cX2_carryOut 163 = .ok (.iload 5, 2) := by decide +kernel
theorem dX2_carryOut_165 : decode cX2_carryOut 165 = .ok (.invokestatic 65, 3) := by decide +kernel
theorem dX2_carryOut_168 : decode cX2_carryOut 168 = .ok (.iload 6, 2) := by decide +kernel
theorem dX2_carryOut_170 : decode cX2_carryOut 170 = .ok (.invokestatic 103, 3) := by decide +kernel
theorem dX2_carryOut_173 : decode cX2_carryOut 173 = .ok (.ifCond .ne 40, 3) := by decide +kernel
theorem dX2_carryOut_176 : decode cX2_carryOut 176 = .ok (.aload_n 0, 1) := by decide +kernel
theorem dX2_carryOut_177 : decode cX2_carryOut 177 = .ok (.getfield 24, 3) := by decide +kernel
theorem dX2_carryOut_180 : decode cX2_carryOut 180 = .ok (.iload 5, 2) := by decide +kernel
theorem dX2_carryOut_182 : decode cX2_carryOut 182 = .ok (.aload_n 0, 1) := by decide +kernel
theorem dX2_carryOut_183 : decode cX2_carryOut 183 = .ok (.getfield 24, 3) := by decide +kernel
theorem dX2_carryOut_186 : decode cX2_carryOut 186 = .ok (.iload 5, 2) := by decide +kernel
theorem dX2_carryOut_188 : decode cX2_carryOut 188 = .ok (.invokestatic 65, 3) := by decide +kernel
theorem dX2_carryOut_191 : decode cX2_carryOut 191 = .ok (.iconst 1, 1) := by decide +kernel
theorem dX2_carryOut_192 : decode cX2_carryOut 192 = .ok (.iload 6, 2) := by decide +kernel
theorem dX2_carryOut_194 : decode cX2_carryOut 194 = .ok (.ishl, 1) := by decide +kernel
theorem dX2_carryOut_195 : decode cX2_carryOut 195 = .ok (.ior, 1) := by decide +kernel
theorem dX2_carryOut_196 : decode cX2_carryOut 196 = .ok (.invokestatic 69, 3) := by decide +kernel
theorem dX2_carryOut_199 : decode cX2_carryOut 199 = .ok (.aload_n 1, 1) := by decide +kernel
theorem dX2_carryOut_200 : decode cX2_carryOut 200 = .ok (.iload 5, 2) := by decide +kernel
theorem dX2_carryOut_202 : decode cX2_carryOut 202 = .ok (.iload 7, 2) := by decide +kernel
theorem dX2_carryOut_204 : decode cX2_carryOut 204 = .ok (.aload_n 0, 1) := by decide +kernel
theorem dX2_carryOut_205 : decode cX2_carryOut 205 = .ok (.getfield 39, 3) := by decide +kernel
theorem dX2_carryOut_208 : decode cX2_carryOut 208 = .ok (.invokevirtual 148, 3) := by decide +kernel
theorem dX2_carryOut_211 : decode cX2_carryOut 211 = .ok (.istore 7, 2) := by decide +kernel
theorem dX2_carryOut_213 : decode cX2_carryOut 213 = .ok (.aload_n 0, 1) := by decide +kernel
theorem dX2_carryOut_214 : decode cX2_carryOut 214 = .ok (.getfield 18, 3) := by decide +kernel
theorem dX2_carryOut_217 : decode cX2_carryOut 217 = .ok (.iload 5, 2) := by decide +kernel
theorem dX2_carryOut_219 : decode cX2_carryOut 219 = .ok (.iload 7, 2) := by decide +kernel
theorem dX2_carryOut_221 : decode cX2_carryOut 221 = .ok (.invokestatic 69, 3) := by decide +kernel
theorem dX2_carryOut_224 : decode cX2_carryOut 224 = .ok (.return_, 1) := by decide +kernel
theorem mokX2_carryOut : MOK yX2_carryOut cX2_carryOut 9 none 3 := ⟨w4_139, w1_8, ⟨by decide, by decide⟩, by decide +kernel, by decide⟩
abbrev miX2_carryOut : MI := (yX2_carryOut.cls, cX2_carryOut, 9, 4, false)
noncomputable def BX2_carryOut : Sm Unit := (dSeq (dSetI 4 (dCall DX11_cell (aI (aR aN 0 (dGR 1 3 (dGR 5 16 (vR 1)))) 1 (vI 2)))) (dSeq (dSetI 5 (dCall DX11_cell (aI (aR aN 0 (dGR 1 4 (dGR 5 16 (vR 1)))) 1 (vI 2)))) (dSeq (dSetI 6 (dCall DX11_cell (aI (aR aN 0 (dGR 1 5 (dGR 5 16 (vR 1)))) 1 (vI 2)))) (dSeq (dDo (dCall DX11_put (aI (aI (aR aN 0 (dGR 2 14 (vR 0))) 1 (vI 2)) 2 (dCallV 2 DX2_loadTo (aI (aI (aR (aR aN 0 (vR 0)) 1 (vR 1)) 2 (vI 5)) 3 (vI 6)))))) (dSeq (dUF 2 6 o_ior (vR 0) (d2 o_ishl (cI 1) (vI 4))) (dSeq (dUF 2 7 o_ior (vR 0) (d2 o_ishl (cI 1) (vI 5))) (dSeq (dDo (dCall DX11_put (aI (aI (aR aN 0 (dGR 2 8 (vR 0))) 1 (vI 4)) 2 (vI 6)))) (dSeq (dDo (dCall DX11_put (aI (aI (aR aN 0 (dGR 2 9 (vR 0))) 1 (vI 5)) 2 (vI 6)))) (dSeq (dSetI 7 (dCall DX11_cell (aI (aR aN 0 (dGR 2 10 (vR 0))) 1 (vI 5)))) (dSeq (dIf (dCZ q_ne (vI 3)) (dSetI 7 (d2 o_iand (vI 7) (d2 o_isub (vI 7) (cI 1)))) dSkip) (dSeq (dSetI 8 (d2 o_iadd (d2 o_imul (vI 5) (cI 8)) (vI 6))) (dSeq (dDo (dCall DX11_put (aI (aI (aR aN 0 (dGR 2 11 (vR 0))) 1 (vI 8)) 2 (d2 o_ior (dCall DX11_cell (aI (aR aN 0 (dGR 2 11 (vR 0))) 1 (vI 8))) (vI 7))))) (dSeq (dIf (dNot (dCZ q_ne (dCall DX11_hasBit (aI (aI aN 0 (dCall DX11_cell (aI (aR aN 0 (dGR 2 12 (vR 0))) 1 (vI 5)))) 1 (vI 6))))) (dSeq (dDo (dCall DX11_put (aI (aI (aR aN 0 (dGR 2 12 (vR 0))) 1 (vI 5)) 2 (d2 o_ior (dCall DX11_cell (aI (aR aN 0 (dGR 2 12 (vR 0))) 1 (vI 5))) (d2 o_ishl (cI 1) (vI 6)))))) (dSetI 7 (dCallV 5 DX5_leftByLaw (aI (aI (aI (aR aN 0 (vR 1)) 1 (vI 5)) 2 (vI 7)) 3 (dGI 2 0 (vR 0)))))) dSkip) (dSeq (dDo (dCall DX11_put (aI (aI (aR aN 0 (dGR 2 10 (vR 0))) 1 (vI 5)) 2 (vI 7)))) dRet0))))))))))))))
theorem sBX2_carryOut : SS (cvoV, .return_) miX2_carryOut [] [] [] [(0, 2), (1, 2), (2, 0), (3, 0)] [(0, 2), (1, 2), (2, 0), (3, 0)] 0 [] BX2_carryOut := (t_sq (p1 := 13) (Γ' := [(0, 2), (1, 2), (2, 0), (3, 0), (4, 0)]) (t_istore (s_of_xI (x_callN (ts := [(0, 2), (1, 0)]) kX11_cell mokX11_cell w3_229 rfl rfl rfl (a_I (ts := [(0, 2)]) 1 (a_R (ts := []) 0 a_nil (s_getR ck1 3 (by decide) rfl (s_getR ck5 16 (by decide) rfl (s_aload_n dX2_carryOut_0 rfl rfl) dX2_carryOut_1 w1_199) dX2_carryOut_4 w1_98) rfl) (s_iload_n dX2_carryOut_7 rfl rfl) rfl) dX2_carryOut_8 nb17)) dX2_carryOut_11 rfl rfl) (t_sq (p1 := 26) (Γ' := [(0, 2), (1, 2), (2, 0), (3, 0), (4, 0), (5, 0)]) (t_istore (s_of_xI (x_callN (ts := [(0, 2), (1, 0)]) kX11_cell mokX11_cell w3_229 rfl rfl rfl (a_I (ts := [(0, 2)]) 1 (a_R (ts := []) 0 a_nil (s_getR ck1 4 (by decide) rfl (s_getR ck5 16 (by decide) rfl (s_aload_n dX2_carryOut_13 rfl rfl) dX2_carryOut_14 w1_199) dX2_carryOut_17 w1_101) rfl) (s_iload_n dX2_carryOut_20 rfl rfl) rfl) dX2_carryOut_21 nb17)) dX2_carryOut_24 rfl rfl) (t_sq (p1 := 39) (Γ' := [(0, 2), (1, 2), (2, 0), (3, 0), (4, 0), (5, 0), (6, 0)]) (t_istore (s_of_xI (x_callN (ts := [(0, 2), (1, 0)]) kX11_cell mokX11_cell w3_229 rfl rfl rfl (a_I (ts := [(0, 2)]) 1 (a_R (ts := []) 0 a_nil (s_getR ck1 5 (by decide) rfl (s_getR ck5 16 (by decide) rfl (s_aload_n dX2_carryOut_26 rfl rfl) dX2_carryOut_27 w1_199) dX2_carryOut_30 w1_104) rfl) (s_iload_n dX2_carryOut_33 rfl rfl) rfl) dX2_carryOut_34 nb17)) dX2_carryOut_37 rfl rfl) (t_sq (p1 := 56) (Γ' := [(0, 2), (1, 2), (2, 0), (3, 0), (4, 0), (5, 0), (6, 0)]) (t_do (x_callN (ts := [(0, 2), (1, 0), (2, 0)]) kX11_put mokX11_put w3_161 rfl rfl rfl (a_I (ts := [(0, 2), (1, 0)]) 2 (a_I (ts := [(0, 2)]) 1 (a_R (ts := []) 0 a_nil (s_getR ck2 14 (by decide) rfl (s_aload_n dX2_carryOut_39 rfl rfl) dX2_carryOut_40 w2_55) rfl) (s_iload_n dX2_carryOut_43 rfl rfl) rfl) (s_of_xI (x_callV (ts := [(0, 2), (1, 2), (2, 0), (3, 0)]) ck2 rfl kX2_loadTo mokX2_loadTo w4_128 ps2_3 rfl rfl rfl rfl (a_I (ts := [(0, 2), (1, 2), (2, 0)]) 3 (a_I (ts := [(0, 2), (1, 2)]) 2 (a_R (ts := [(0, 2)]) 1 (a_R (ts := []) 0 a_nil (s_aload_n dX2_carryOut_44 rfl rfl) rfl) (s_aload_n dX2_carryOut_45 rfl rfl) rfl) (s_iload dX2_carryOut_46 rfl) rfl) (s_iload dX2_carryOut_48 rfl) rfl) dX2_carryOut_50 w4_126)) rfl) dX2_carryOut_53 nb18) rfl) (t_sq (p1 := 69) (Γ' := [(0, 2), (1, 2), (2, 0), (3, 0), (4, 0), (5, 0), (6, 0)]) (t_UF ck2 6 (by decide) rfl (Or.inl rfl) (s_aload_n dX2_carryOut_56 rfl rfl) dX2_carryOut_57 dX2_carryOut_58 w2_40 (s_ishl (s_iconst dX2_carryOut_61 rfl) (s_iload dX2_carryOut_62 rfl) dX2_carryOut_64) (fun _ _ _ _ => rulI fun a b K => lv_ior a b dX2_carryOut_65 K) dX2_carryOut_66 w2_40 rfl) (t_sq (p1 := 82) (Γ' := [(0, 2), (1, 2), (2, 0), (3, 0), (4, 0), (5, 0), (6, 0)]) (t_UF ck2 7 (by decide) rfl (Or.inl rfl) (s_aload_n dX2_carryOut_69 rfl rfl) dX2_carryOut_70 dX2_carryOut_71 w2_41 (s_ishl (s_iconst dX2_carryOut_74 rfl) (s_iload dX2_carryOut_75 rfl) dX2_carryOut_77) (fun _ _ _ _ => rulI fun a b K => lv_ior a b dX2_carryOut_78 K) dX2_carryOut_79 w2_41 rfl) (t_sq (p1 := 93) (Γ' := [(0, 2), (1, 2), (2, 0), (3, 0), (4, 0), (5, 0), (6, 0)]) (t_do (x_callN (ts := [(0, 2), (1, 0), (2, 0)]) kX11_put mokX11_put w3_161 rfl rfl rfl (a_I (ts := [(0, 2), (1, 0)]) 2 (a_I (ts := [(0, 2)]) 1 (a_R (ts := []) 0 a_nil (s_getR ck2 8 (by decide) rfl (s_aload_n dX2_carryOut_82 rfl rfl) dX2_carryOut_83 w2_42) rfl) (s_iload dX2_carryOut_86 rfl) rfl) (s_iload dX2_carryOut_88 rfl) rfl) dX2_carryOut_90 nb18) rfl) (t_sq (p1 := 104) (Γ' := [(0, 2), (1, 2), (2, 0), (3, 0), (4, 0), (5, 0), (6, 0)]) (t_do (x_callN (ts := [(0, 2), (1, 0), (2, 0)]) kX11_put mokX11_put w3_161 rfl rfl rfl (a_I (ts := [(0, 2), (1, 0)]) 2 (a_I (ts := [(0, 2)]) 1 (a_R (ts := []) 0 a_nil (s_getR ck2 9 (by decide) rfl (s_aload_n dX2_carryOut_93 rfl rfl) dX2_carryOut_94 w2_44) rfl) (s_iload dX2_carryOut_97 rfl) rfl) (s_iload dX2_carryOut_99 rfl) rfl) dX2_carryOut_101 nb18) rfl) (t_sq (p1 := 115) (Γ' := [(0, 2), (1, 2), (2, 0), (3, 0), (4, 0), (5, 0), (6, 0), (7, 0)]) (t_istore (s_of_xI (x_callN (ts := [(0, 2), (1, 0)]) kX11_cell mokX11_cell w3_229 rfl rfl rfl (a_I (ts := [(0, 2)]) 1 (a_R (ts := []) 0 a_nil (s_getR ck2 10 (by decide) rfl (s_aload_n dX2_carryOut_104 rfl rfl) dX2_carryOut_105 w2_46) rfl) (s_iload dX2_carryOut_108 rfl) rfl) dX2_carryOut_110 nb17)) dX2_carryOut_113 rfl rfl) (t_sq (p1 := 128) (Γ' := [(0, 2), (1, 2), (2, 0), (3, 0), (4, 0), (5, 0), (6, 0), (7, 0)]) (t_if (pT := 119) (pF := 128) (X := [128]) (XA := [128]) (XB := [128]) (c_ne_ZF (pF := 128) (s_iload_n dX2_carryOut_115 rfl rfl) dX2_carryOut_116 rfl) (t_istore (s_iand (s_iload dX2_carryOut_119 rfl) (s_isub (s_iload dX2_carryOut_121 rfl) (s_iconst dX2_carryOut_123 rfl) dX2_carryOut_124) dX2_carryOut_125) dX2_carryOut_126 rfl rfl) (t_skip (ld_in rfl) rfl) (lda_cons (ld_in rfl) lda_nil) (lda_cons (ld_in rfl) lda_nil)) (t_sq (p1 := 138) (Γ' := [(0, 2), (1, 2), (2, 0), (3, 0), (4, 0), (5, 0), (6, 0), (7, 0), (8, 0)]) (t_istore (s_iadd (s_imul (s_iload dX2_carryOut_128 rfl) (s_bipush dX2_carryOut_130 rfl) dX2_carryOut_132) (s_iload dX2_carryOut_133 rfl) dX2_carryOut_135) dX2_carryOut_136 rfl rfl) (t_sq (p1 := 159) (Γ' := [(0, 2), (1, 2), (2, 0), (3, 0), (4, 0), (5, 0), (6, 0), (7, 0), (8, 0)]) (t_do (x_callN (ts := [(0, 2), (1, 0), (2, 0)]) kX11_put mokX11_put w3_161 rfl rfl rfl (a_I (ts := [(0, 2), (1, 0)]) 2 (a_I (ts := [(0, 2)]) 1 (a_R (ts := []) 0 a_nil (s_getR ck2 11 (by decide) rfl (s_aload_n dX2_carryOut_138 rfl rfl) dX2_carryOut_139 w2_50) rfl) (s_iload dX2_carryOut_142 rfl) rfl) (s_ior (s_of_xI (x_callN (ts := [(0, 2), (1, 0)]) kX11_cell mokX11_cell w3_229 rfl rfl rfl (a_I (ts := [(0, 2)]) 1 (a_R (ts := []) 0 a_nil (s_getR ck2 11 (by decide) rfl (s_aload_n dX2_carryOut_144 rfl rfl) dX2_carryOut_145 w2_50) rfl) (s_iload dX2_carryOut_148 rfl) rfl) dX2_carryOut_150 nb17)) (s_iload dX2_carryOut_153 rfl) dX2_carryOut_155) rfl) dX2_carryOut_156 nb18) rfl) (t_sq (p1 := 213) (Γ' := [(0, 2), (1, 2), (2, 0), (3, 0), (4, 0), (5, 0), (6, 0), (7, 0), (8, 0)]) (t_if (pT := 176) (pF := 213) (X := [213]) (XA := [213]) (XB := [213]) (c_not (pT := 176) (pF := 213) (c_ne_ZJ (pT := 213) (s_of_xI (x_callN (ts := [(0, 0), (1, 0)]) kX11_hasBit mokX11_hasBit w4_37 rfl rfl rfl (a_I (ts := [(0, 0)]) 1 (a_I (ts := []) 0 a_nil (s_of_xI (x_callN (ts := [(0, 2), (1, 0)]) kX11_cell mokX11_cell w3_229 rfl rfl rfl (a_I (ts := [(0, 2)]) 1 (a_R (ts := []) 0 a_nil (s_getR ck2 12 (by decide) rfl (s_aload_n dX2_carryOut_159 rfl rfl) dX2_carryOut_160 w2_52) rfl) (s_iload dX2_carryOut_163 rfl) rfl) dX2_carryOut_165 nb17)) rfl) (s_iload dX2_carryOut_168 rfl) rfl) dX2_carryOut_170 nb20)) dX2_carryOut_173 rfl)) (t_sq (p1 := 199) (Γ' := [(0, 2), (1, 2), (2, 0), (3, 0), (4, 0), (5, 0), (6, 0), (7, 0), (8, 0)]) (t_do (x_callN (ts := [(0, 2), (1, 0), (2, 0)]) kX11_put mokX11_put w3_161 rfl rfl rfl (a_I (ts := [(0, 2), (1, 0)]) 2 (a_I (ts := [(0, 2)]) 1 (a_R (ts := []) 0 a_nil (s_getR ck2 12 (by decide) rfl (s_aload_n dX2_carryOut_176 rfl rfl) dX2_carryOut_177 w2_52) rfl) (s_iload dX2_carryOut_180 rfl) rfl) (s_ior (s_of_xI (x_callN (ts := [(0, 2), (1, 0)]) kX11_cell mokX11_cell w3_229 rfl rfl rfl (a_I (ts := [(0, 2)]) 1 (a_R (ts := []) 0 a_nil (s_getR ck2 12 (by decide) rfl (s_aload_n dX2_carryOut_182 rfl rfl) dX2_carryOut_183 w2_52) rfl) (s_iload dX2_carryOut_186 rfl) rfl) dX2_carryOut_188 nb17)) (s_ishl (s_iconst dX2_carryOut_191 rfl) (s_iload dX2_carryOut_192 rfl) dX2_carryOut_194) dX2_carryOut_195) rfl) dX2_carryOut_196 nb18) rfl) (t_istore (s_of_xI (x_callV (ts := [(0, 2), (1, 0), (2, 0), (3, 0)]) ck5 rfl kX5_leftByLaw mokX5_leftByLaw w4_141 w4_142 rfl rfl rfl rfl (a_I (ts := [(0, 2), (1, 0), (2, 0)]) 3 (a_I (ts := [(0, 2), (1, 0)]) 2 (a_I (ts := [(0, 2)]) 1 (a_R (ts := []) 0 a_nil (s_aload_n dX2_carryOut_199 rfl rfl) rfl) (s_iload dX2_carryOut_200 rfl) rfl) (s_iload dX2_carryOut_202 rfl) rfl) (s_getI ck2 0 (by decide) rfl (s_aload_n dX2_carryOut_204 rfl rfl) dX2_carryOut_205 w2_26) rfl) dX2_carryOut_208 w4_140)) dX2_carryOut_211 rfl rfl)) (t_skip (ld_in rfl) rfl) (lda_cons (ld_in rfl) lda_nil) (lda_cons (ld_in rfl) lda_nil)) (t_sq (p1 := 224) (Γ' := [(0, 2), (1, 2), (2, 0), (3, 0), (4, 0), (5, 0), (6, 0), (7, 0), (8, 0)]) (t_do (x_callN (ts := [(0, 2), (1, 0), (2, 0)]) kX11_put mokX11_put w3_161 rfl rfl rfl (a_I (ts := [(0, 2), (1, 0)]) 2 (a_I (ts := [(0, 2)]) 1 (a_R (ts := []) 0 a_nil (s_getR ck2 10 (by decide) rfl (s_aload_n dX2_carryOut_213 rfl rfl) dX2_carryOut_214 w2_46) rfl) (s_iload dX2_carryOut_217 rfl) rfl) (s_iload dX2_carryOut_219 rfl) rfl) dX2_carryOut_221 nb18) rfl) (t_ret0 (fun _ _ => rfl) dX2_carryOut_224)))))))))))))))
noncomputable def DX2_carryOut : Fr → St → Option (Unit × St) := M1 (fun f => (sI (sI (sR (sR fr0 0 (gR f 0)) 1 (gR f 1)) 2 (gI f 2)) 3 (gI f 3))) BX2_carryOut
theorem kX2_carryOut : SND yX2_carryOut cX2_carryOut 9 none 4 [(0, 2), (1, 2), (2, 0), (3, 0)] cvoV DX2_carryOut := snd_V (nw := 4) (by decide) (fun z => by cases z) rfl rfl (fun _ _ => rfl) sBX2_carryOut
theorem dX2_hindrance_0 : decode cX2_hindrance 0 = .ok (.aload_n 1, 1) := by decide +kernel
theorem dX2_hindrance_1 : decode cX2_hindrance 1 = .ok (.getfield 87, 3) := by decide +kernel
theorem dX2_hindrance_4 : decode cX2_hindrance 4 = .ok (.getfield 122, 3) := by decide +kernel
theorem dX2_hindrance_7 : decode cX2_hindrance 7 = .ok (.iload_n 2, 1) := by decide +kernel
theorem dX2_hindrance_8 : decode cX2_hindrance 8 = .ok (.invokestatic 65, 3) := by decide +kernel
theorem dX2_hindrance_11 : decode cX2_hindrance 11 = .ok (.istore_n 3, 1) := by decide +kernel
theorem dX2_hindrance_12 : decode cX2_hindrance 12 = .ok (.aload_n 1, 1) := by decide +kernel
theorem dX2_hindrance_13 : decode cX2_hindrance 13 = .ok (.getfield 87, 3) := by decide +kernel
theorem dX2_hindrance_16 : decode cX2_hindrance 16 = .ok (.getfield 125, 3) := by decide +kernel
theorem dX2_hindrance_19 : decode cX2_hindrance 19 = .ok (.iload_n 2, 1) := by decide +kernel
theorem dX2_hindrance_20 : decode cX2_hindrance 20 = .ok (.invokestatic 65, 3) := by decide +kernel
theorem dX2_hindrance_23 : decode cX2_hindrance 23 = .ok (.istore 4, 2) := by decide +kernel
theorem dX2_hindrance_25 : decode cX2_hindrance 25 = .ok (.aload_n 1, 1) := by decide +kernel
theorem dX2_hindrance_26 : decode cX2_hindrance 26 = .ok (.getfield 87, 3) := by decide +kernel
theorem dX2_hindrance_29 : decode cX2_hindrance 29 = .ok (.getfield 128, 3) := by decide +kernel
theorem dX2_hindrance_32 : decode cX2_hindrance 32 = .ok (.iload_n 2, 1) := by decide +kernel
theorem dX2_hindrance_33 : decode cX2_hindrance 33 = .ok (.invokestatic 65, 3) := by decide +kernel
theorem dX2_hindrance_36 : decode cX2_hindrance 36 = .ok (.istore 5, 2) := by decide +kernel
theorem dX2_hindrance_38 : decode cX2_hindrance 38 = .ok (.aload_n 0, 1) := by decide +kernel
theorem dX2_hindrance_39 : decode cX2_hindrance 39 = .ok (.getfield 15, 3) := by decide +kernel
theorem dX2_hindrance_42 : decode cX2_hindrance 42 = .ok (.iload 4, 2) := by decide +kernel
theorem dX2_hindrance_44 : decode cX2_hindrance 44 = .ok (.invokestatic 65, 3) := by decide +kernel
theorem dX2_hindrance_47 : decode cX2_hindrance 47 = .ok (.istore 6, 2) := by decide +kernel
theorem dX2_hindrance_49 : decode cX2_hindrance 49 = .ok (.aload_n 0, 1) := by decide +kernel
theorem dX2_hindrance_50 : decode cX2_hindrance 50 = .ok (.getfield 81, 3) := by decide +kernel
theorem dX2_hindrance_53 : decode cX2_hindrance 53 = .ok (.iload_n 3, 1) := by decide +kernel
theorem dX2_hindrance_54 : decode cX2_hindrance 54 = .ok (.invokestatic 103, 3) := by decide +kernel
theorem dX2_hindrance_57 : decode cX2_hindrance 57 = .ok (.ifCond .ne 15, 3) := by decide +kernel
theorem dX2_hindrance_60 : decode cX2_hindrance 60 = .ok (.aload_n 0, 1) := by decide +kernel
theorem dX2_hindrance_61 : decode cX2_hindrance 61 = .ok (.getfield 84, 3) := by decide +kernel
theorem dX2_hindrance_64 : decode cX2_hindrance 64 = .ok (.iload 4, 2) := by decide +kernel
theorem dX2_hindrance_66 : decode cX2_hindrance 66 = .ok (.invokestatic 103, 3) := by decide +kernel
theorem dX2_hindrance_69 : decode cX2_hindrance 69 = .ok (.ifCond .eq 5, 3) := by decide +kernel
theorem dX2_hindrance_72 : decode cX2_hindrance 72 = .ok (.iconst 2, 1) := by decide +kernel
theorem dX2_hindrance_73 : decode cX2_hindrance 73 = .ok (.ireturn, 1) := by decide +kernel
theorem dX2_hindrance_74 : decode cX2_hindrance 74 = .ok (.aload_n 0, 1) := by decide +kernel
theorem dX2_hindrance_75 : decode cX2_hindrance 75 = .ok (.getfield 9, 3) := by decide +kernel
theorem dX2_hindrance_78 : decode cX2_hindrance 78 = .ok (.iload_n 3, 1) := by decide +kernel
theorem dX2_hindrance_79 : decode cX2_hindrance 79 = .ok (.invokestatic 65, 3) := by decide +kernel
theorem dX2_hindrance_82 : decode cX2_hindrance 82 = .ok (.iload 6, 2) := by decide +kernel
theorem dX2_hindrance_84 : decode cX2_hindrance 84 = .ok (.if_icmp .eq 5, 3) := by decide +kernel
theorem dX2_hindrance_87 : decode cX2_hindrance 87 = .ok (.iconst 3, 1) := by decide +kernel
theorem dX2_hindrance_88 : decode cX2_hindrance 88 = .ok (.ireturn, 1) := by decide +kernel
theorem dX2_hindrance_89 : decode cX2_hindrance 89 = .ok (.aload_n 0, 1) := by decide +kernel
theorem dX2_hindrance_90 : decode cX2_hindrance 90 = .ok (.getfield 43, 3) := by decide +kernel
theorem dX2_hindrance_93 : decode cX2_hindrance 93 = .ok (.iload 5, 2) := by decide +kernel
theorem dX2_hindrance_95 : decode cX2_hindrance 95 = .ok (.invokestatic 103, 3) := by decide +kernel
theorem dX2_hindrance_98 : decode cX2_hindrance 98 = .ok (.ifCond .ne 21, 3) := by decide +kernel
theorem dX2_hindrance_101 : decode cX2_hindrance 101 = .ok (.aload_n 1, 1) := by decide +kernel
theorem dX2_hindrance_102 : decode cX2_hindrance 102 = .ok (.iload 6, 2) := by decide +kernel
theorem dX2_hindrance_104 : decode cX2_hindrance 104 = .ok (.aload_n 0, 1) := by decide +kernel
theorem dX2_hindrance_105 : decode cX2_hindrance 105 = .ok (.getfield 40, 3) := by decide +kernel
theorem dX2_hindrance_108 : decode cX2_hindrance 108 = .ok (.invokevirtual 131, 3) := by decide +kernel
theorem dX2_hindrance_111 : decode cX2_hindrance 111 = .ok (.iload 5, 2) := by decide +kernel
theorem dX2_hindrance_113 : decode cX2_hindrance 113 = .ok (.invokestatic 103, 3) := by decide +kernel
theorem dX2_hindrance_116 : decode cX2_hindrance 116 = .ok (.ifCond .ne 5, 3) := by decide +kernel
theorem dX2_hindrance_119 : decode cX2_hindrance 119 = .ok (.iconst 4, 1) := by decide +kernel
theorem dX2_hindrance_120 : decode cX2_hindrance 120 = .ok (.ireturn, 1) := by decide +kernel
theorem dX2_hindrance_121 : decode cX2_hindrance 121 = .ok (.aload_n 0, 1) := by decide +kernel
theorem dX2_hindrance_122 : decode cX2_hindrance 122 = .ok (.aload_n 1, 1) := by decide +kernel
theorem dX2_hindrance_123 : decode cX2_hindrance 123 = .ok (.iload 4, 2) := by decide +kernel
theorem dX2_hindrance_125 : decode cX2_hindrance 125 = .ok (.iload 5, 2) := by decide +kernel
theorem dX2_hindrance_127 : decode cX2_hindrance 127 = .ok (.invokevirtual 135, 3) := by decide +kernel
theorem dX2_hindrance_130 : decode cX2_hindrance 130 = .ok (.aload_n 1, 1) := by decide +kernel
theorem dX2_hindrance_131 : decode cX2_hindrance 131 = .ok (.getfield 139, 3) := by decide +kernel
theorem dX2_hindrance_134 : decode cX2_hindrance 134 = .ok (.iload_n 3, 1) := by decide +kernel
theorem dX2_hindrance_135 : decode cX2_hindrance 135 = .ok (.invokestatic 65, 3) := by decide +kernel
theorem dX2_hindrance_138 : decode cX2_hindrance 138 = .ok (.if_icmp .le 7, 3) := by decide +kernel
theorem dX2_hindrance_141 : decode cX2_hindrance 141 = .ok (.iconst 5, 1) := by decide +kernel
theorem dX2_hindrance_142 : decode cX2_hindrance 142 = .ok (.goto 4, 3) := by decide +kernel
theorem dX2_hindrance_145 : decode cX2_hindrance 145 = .ok (.iconst 0, 1) := by decide +kernel
theorem dX2_hindrance_146 : decode cX2_hindrance 146 = .ok (.ireturn, 1) := by decide +kernel
theorem mokX2_hindrance : MOK yX2_hindrance cX2_hindrance 7 (some .int) 2 := ⟨w4_123, w1_8, ⟨by decide, by decide⟩, by decide +kernel, by decide⟩
abbrev miX2_hindrance : MI := (yX2_hindrance.cls, cX2_hindrance, 7, 4, false)
noncomputable def BX2_hindrance : Sm Int32 := (dSeq (dSetI 3 (dCall DX11_cell (aI (aR aN 0 (dGR 1 3 (dGR 5 16 (vR 1)))) 1 (vI 2)))) (dSeq (dSetI 4 (dCall DX11_cell (aI (aR aN 0 (dGR 1 4 (dGR 5 16 (vR 1)))) 1 (vI 2)))) (dSeq (dSetI 5 (dCall DX11_cell (aI (aR aN 0 (dGR 1 5 (dGR 5 16 (vR 1)))) 1 (vI 2)))) (dSeq (dSetI 6 (dCall DX11_cell (aI (aR aN 0 (dGR 2 9 (vR 0))) 1 (vI 4)))) (dSeq (dIf (dOr (dCZ q_ne (dCall DX11_hasBit (aI (aI aN 0 (dGI 2 6 (vR 0))) 1 (vI 3)))) (dCZ q_ne (dCall DX11_hasBit (aI (aI aN 0 (dGI 2 7 (vR 0))) 1 (vI 4))))) (dRet (cI 2)) dSkip) (dSeq (dIf (dCI r_ne (dCall DX11_cell (aI (aR aN 0 (dGR 2 8 (vR 0))) 1 (vI 3))) (vI 6)) (dRet (cI 3)) dSkip) (dSeq (dIf (dOr (dCZ q_ne (dCall DX11_hasBit (aI (aI aN 0 (dGI 2 2 (vR 0))) 1 (vI 5)))) (dNot (dCZ q_ne (dCall DX11_hasBit (aI (aI aN 0 (dCallV 5 DX5_doorsOf (aI (aI (aR aN 0 (vR 1)) 1 (vI 6)) 2 (dGI 2 1 (vR 0))))) 1 (vI 5)))))) (dRet (cI 4)) dSkip) (dRet (dT (dCI r_gt (dCallV 2 DX2_loadTo (aI (aI (aR (aR aN 0 (vR 0)) 1 (vR 1)) 2 (vI 4)) 3 (vI 5))) (dCall DX11_cell (aI (aR aN 0 (dGR 5 12 (vR 1))) 1 (vI 3)))) (cI 5) (cI 0))))))))))
theorem sBX2_hindrance : SS (cvoI, .ireturn) miX2_hindrance [] [] [] [(0, 2), (1, 2), (2, 0)] [(0, 2), (1, 2), (2, 0)] 0 [] BX2_hindrance := (t_sq (p1 := 12) (Γ' := [(0, 2), (1, 2), (2, 0), (3, 0)]) (t_istore_n (s_of_xI (x_callN (ts := [(0, 2), (1, 0)]) kX11_cell mokX11_cell w3_229 rfl rfl rfl (a_I (ts := [(0, 2)]) 1 (a_R (ts := []) 0 a_nil (s_getR ck1 3 (by decide) rfl (s_getR ck5 16 (by decide) rfl (s_aload_n dX2_hindrance_0 rfl rfl) dX2_hindrance_1 w1_199) dX2_hindrance_4 w1_98) rfl) (s_iload_n dX2_hindrance_7 rfl rfl) rfl) dX2_hindrance_8 nb17)) dX2_hindrance_11 rfl rfl rfl) (t_sq (p1 := 25) (Γ' := [(0, 2), (1, 2), (2, 0), (3, 0), (4, 0)]) (t_istore (s_of_xI (x_callN (ts := [(0, 2), (1, 0)]) kX11_cell mokX11_cell w3_229 rfl rfl rfl (a_I (ts := [(0, 2)]) 1 (a_R (ts := []) 0 a_nil (s_getR ck1 4 (by decide) rfl (s_getR ck5 16 (by decide) rfl (s_aload_n dX2_hindrance_12 rfl rfl) dX2_hindrance_13 w1_199) dX2_hindrance_16 w1_101) rfl) (s_iload_n dX2_hindrance_19 rfl rfl) rfl) dX2_hindrance_20 nb17)) dX2_hindrance_23 rfl rfl) (t_sq (p1 := 38) (Γ' := [(0, 2), (1, 2), (2, 0), (3, 0), (4, 0), (5, 0)]) (t_istore (s_of_xI (x_callN (ts := [(0, 2), (1, 0)]) kX11_cell mokX11_cell w3_229 rfl rfl rfl (a_I (ts := [(0, 2)]) 1 (a_R (ts := []) 0 a_nil (s_getR ck1 5 (by decide) rfl (s_getR ck5 16 (by decide) rfl (s_aload_n dX2_hindrance_25 rfl rfl) dX2_hindrance_26 w1_199) dX2_hindrance_29 w1_104) rfl) (s_iload_n dX2_hindrance_32 rfl rfl) rfl) dX2_hindrance_33 nb17)) dX2_hindrance_36 rfl rfl) (t_sq (p1 := 49) (Γ' := [(0, 2), (1, 2), (2, 0), (3, 0), (4, 0), (5, 0), (6, 0)]) (t_istore (s_of_xI (x_callN (ts := [(0, 2), (1, 0)]) kX11_cell mokX11_cell w3_229 rfl rfl rfl (a_I (ts := [(0, 2)]) 1 (a_R (ts := []) 0 a_nil (s_getR ck2 9 (by decide) rfl (s_aload_n dX2_hindrance_38 rfl rfl) dX2_hindrance_39 w2_44) rfl) (s_iload dX2_hindrance_42 rfl) rfl) dX2_hindrance_44 nb17)) dX2_hindrance_47 rfl rfl) (t_sq (p1 := 74) (Γ' := [(0, 2), (1, 2), (2, 0), (3, 0), (4, 0), (5, 0), (6, 0)]) (t_if (pT := 72) (pF := 74) (X := [74]) (XA := []) (XB := [74]) (c_or (p1 := 60) (pT := 72) (pF := 74) (c_ne_ZJ (pT := 72) (s_of_xI (x_callN (ts := [(0, 0), (1, 0)]) kX11_hasBit mokX11_hasBit w4_37 rfl rfl rfl (a_I (ts := [(0, 0)]) 1 (a_I (ts := []) 0 a_nil (s_getI ck2 6 (by decide) rfl (s_aload_n dX2_hindrance_49 rfl rfl) dX2_hindrance_50 w2_40) rfl) (s_iload_n dX2_hindrance_53 rfl rfl) rfl) dX2_hindrance_54 nb20)) dX2_hindrance_57 rfl) (c_ne_ZF (pF := 74) (s_of_xI (x_callN (ts := [(0, 0), (1, 0)]) kX11_hasBit mokX11_hasBit w4_37 rfl rfl rfl (a_I (ts := [(0, 0)]) 1 (a_I (ts := []) 0 a_nil (s_getI ck2 7 (by decide) rfl (s_aload_n dX2_hindrance_60 rfl rfl) dX2_hindrance_61 w2_41) rfl) (s_iload dX2_hindrance_64 rfl) rfl) dX2_hindrance_66 nb20)) dX2_hindrance_69 rfl)) (t_ret (cv := cvI) (fun _ _ => rfl) (s_iconst dX2_hindrance_72 rfl) dX2_hindrance_73) (t_skip (ld_in rfl) rfl) lda_nil (lda_cons (ld_in rfl) lda_nil)) (t_sq (p1 := 89) (Γ' := [(0, 2), (1, 2), (2, 0), (3, 0), (4, 0), (5, 0), (6, 0)]) (t_if (pT := 87) (pF := 89) (X := [89]) (XA := []) (XB := [89]) (c_ne_F (pF := 89) (s_of_xI (x_callN (ts := [(0, 2), (1, 0)]) kX11_cell mokX11_cell w3_229 rfl rfl rfl (a_I (ts := [(0, 2)]) 1 (a_R (ts := []) 0 a_nil (s_getR ck2 8 (by decide) rfl (s_aload_n dX2_hindrance_74 rfl rfl) dX2_hindrance_75 w2_42) rfl) (s_iload_n dX2_hindrance_78 rfl rfl) rfl) dX2_hindrance_79 nb17)) (s_iload dX2_hindrance_82 rfl) dX2_hindrance_84 rfl) (t_ret (cv := cvI) (fun _ _ => rfl) (s_iconst dX2_hindrance_87 rfl) dX2_hindrance_88) (t_skip (ld_in rfl) rfl) lda_nil (lda_cons (ld_in rfl) lda_nil)) (t_sq (p1 := 121) (Γ' := [(0, 2), (1, 2), (2, 0), (3, 0), (4, 0), (5, 0), (6, 0)]) (t_if (pT := 119) (pF := 121) (X := [121]) (XA := []) (XB := [121]) (c_or (p1 := 101) (pT := 119) (pF := 121) (c_ne_ZJ (pT := 119) (s_of_xI (x_callN (ts := [(0, 0), (1, 0)]) kX11_hasBit mokX11_hasBit w4_37 rfl rfl rfl (a_I (ts := [(0, 0)]) 1 (a_I (ts := []) 0 a_nil (s_getI ck2 2 (by decide) rfl (s_aload_n dX2_hindrance_89 rfl rfl) dX2_hindrance_90 w2_30) rfl) (s_iload dX2_hindrance_93 rfl) rfl) dX2_hindrance_95 nb20)) dX2_hindrance_98 rfl) (c_not (pT := 119) (pF := 121) (c_ne_ZJ (pT := 121) (s_of_xI (x_callN (ts := [(0, 0), (1, 0)]) kX11_hasBit mokX11_hasBit w4_37 rfl rfl rfl (a_I (ts := [(0, 0)]) 1 (a_I (ts := []) 0 a_nil (s_of_xI (x_callV (ts := [(0, 2), (1, 0), (2, 0)]) ck5 rfl kX5_doorsOf mokX5_doorsOf w4_20 w4_21 rfl rfl rfl rfl (a_I (ts := [(0, 2), (1, 0)]) 2 (a_I (ts := [(0, 2)]) 1 (a_R (ts := []) 0 a_nil (s_aload_n dX2_hindrance_101 rfl rfl) rfl) (s_iload dX2_hindrance_102 rfl) rfl) (s_getI ck2 1 (by decide) rfl (s_aload_n dX2_hindrance_104 rfl rfl) dX2_hindrance_105 w2_28) rfl) dX2_hindrance_108 w4_125)) rfl) (s_iload dX2_hindrance_111 rfl) rfl) dX2_hindrance_113 nb20)) dX2_hindrance_116 rfl))) (t_ret (cv := cvI) (fun _ _ => rfl) (s_iconst dX2_hindrance_119 rfl) dX2_hindrance_120) (t_skip (ld_in rfl) rfl) lda_nil (lda_cons (ld_in rfl) lda_nil)) (t_ret (cv := cvI) (fun _ _ => rfl) (s_T (pT := 141) (pF := 145) (p1 := 142) (pe := 146) (c_gt_F (pF := 145) (s_of_xI (x_callV (ts := [(0, 2), (1, 2), (2, 0), (3, 0)]) ck2 rfl kX2_loadTo mokX2_loadTo w4_128 ps2_3 rfl rfl rfl rfl (a_I (ts := [(0, 2), (1, 2), (2, 0)]) 3 (a_I (ts := [(0, 2), (1, 2)]) 2 (a_R (ts := [(0, 2)]) 1 (a_R (ts := []) 0 a_nil (s_aload_n dX2_hindrance_121 rfl rfl) rfl) (s_aload_n dX2_hindrance_122 rfl rfl) rfl) (s_iload dX2_hindrance_123 rfl) rfl) (s_iload dX2_hindrance_125 rfl) rfl) dX2_hindrance_127 w4_126)) (s_of_xI (x_callN (ts := [(0, 2), (1, 0)]) kX11_cell mokX11_cell w3_229 rfl rfl rfl (a_I (ts := [(0, 2)]) 1 (a_R (ts := []) 0 a_nil (s_getR ck5 12 (by decide) rfl (s_aload_n dX2_hindrance_130 rfl rfl) dX2_hindrance_131 w1_186) rfl) (s_iload_n dX2_hindrance_134 rfl rfl) rfl) dX2_hindrance_135 nb17)) dX2_hindrance_138 rfl) (s_iconst dX2_hindrance_141 rfl) (s_iconst dX2_hindrance_145 rfl) (ld_goto (y := 146) dX2_hindrance_142 rfl (ld_in rfl))) dX2_hindrance_146))))))))
noncomputable def DX2_hindrance : Fr → St → Option (Int32 × St) := M1 (fun f => (sI (sR (sR fr0 0 (gR f 0)) 1 (gR f 1)) 2 (gI f 2))) BX2_hindrance
theorem kX2_hindrance : SND yX2_hindrance cX2_hindrance 7 (some .int) 4 [(0, 2), (1, 2), (2, 0)] cvoI DX2_hindrance := snd_I (nw := 3) (by decide) rfl rfl (fun _ _ => rfl) sBX2_hindrance
theorem dX2_passDay_0 : decode cX2_passDay 0 = .ok (.aload_n 0, 1) := by decide +kernel
theorem dX2_passDay_1 : decode cX2_passDay 1 = .ok (.iconst 0, 1) := by decide +kernel
theorem dX2_passDay_2 : decode cX2_passDay 2 = .ok (.putfield 81, 3) := by decide +kernel
theorem dX2_passDay_5 : decode cX2_passDay 5 = .ok (.aload_n 0, 1) := by decide +kernel
theorem dX2_passDay_6 : decode cX2_passDay 6 = .ok (.iconst 0, 1) := by decide +kernel
theorem dX2_passDay_7 : decode cX2_passDay 7 = .ok (.putfield 84, 3) := by decide +kernel
theorem dX2_passDay_10 : decode cX2_passDay 10 = .ok (.iconst 0, 1) := by decide +kernel
theorem dX2_passDay_11 : decode cX2_passDay 11 = .ok (.istore_n 3, 1) := by decide +kernel
theorem dX2_passDay_12 : decode cX2_passDay 12 = .ok (.iload_n 3, 1) := by decide +kernel
theorem dX2_passDay_13 : decode cX2_passDay 13 = .ok (.aload_n 1, 1) := by decide +kernel
theorem dX2_passDay_14 : decode cX2_passDay 14 = .ok (.getfield 87, 3) := by decide +kernel
theorem dX2_passDay_17 : decode cX2_passDay 17 = .ok (.getfield 91, 3) := by decide +kernel
theorem dX2_passDay_20 : decode cX2_passDay 20 = .ok (.if_icmp .ge 67, 3) := by decide +kernel
theorem dX2_passDay_23 : decode cX2_passDay 23 = .ok (.iload_n 3, 1) := by decide +kernel
theorem dX2_passDay_24 : decode cX2_passDay 24 = .ok (.bipush 32, 2) := by decide +kernel
theorem dX2_passDay_26 : decode cX2_passDay 26 = .ok (.if_icmp .ge 61, 3) := by decide +kernel
theorem dX2_passDay_29 : decode cX2_passDay 29 = .ok (.aload_n 1, 1) := by decide +kernel
theorem dX2_passDay_30 : decode cX2_passDay 30 = .ok (.getfield 87, 3) := by decide +kernel
theorem dX2_passDay_33 : decode cX2_passDay 33 = .ok (.getfield 96, 3) := by decide +kernel
theorem dX2_passDay_36 : decode cX2_passDay 36 = .ok (.iload_n 3, 1) := by decide +kernel
theorem dX2_passDay_37 : decode cX2_passDay 37 = .ok (.invokestatic 65, 3) := by decide +kernel
theorem dX2_passDay_40 : decode cX2_passDay 40 = .ok (.iload_n 2, 1) := by decide +kernel
theorem dX2_passDay_41 : decode cX2_passDay 41 = .ok (.if_icmp .ne 40, 3) := by decide +kernel
theorem dX2_passDay_44 : decode cX2_passDay 44 = .ok (.aload_n 0, 1) := by decide +kernel
theorem dX2_passDay_45 : decode cX2_passDay 45 = .ok (.aload_n 1, 1) := by decide +kernel
theorem dX2_passDay_46 : decode cX2_passDay 46 = .ok (.iload_n 3, 1) := by decide +kernel
theorem dX2_passDay_47 : decode cX2_passDay 47 = .ok (.invokevirtual 99, 3) := by decide +kernel
theorem dX2_passDay_50 : decode cX2_passDay 50 = .ok (.istore 4, 2) := by decide +kernel
theorem dX2_passDay_52 : decode cX2_passDay 52 = .ok (.aload_n 0, 1) := by decide +kernel
theorem dX2_passDay_53 : decode cX2_passDay 53 = .ok (.getfield 27, 3) := by decide +kernel
theorem dX2_passDay_56 : decode cX2_passDay 56 = .ok (.iload_n 3, 1) := by decide +kernel
theorem dX2_passDay_57 : decode cX2_passDay 57 = .ok (.iload 4, 2) := by decide +kernel
theorem dX2_passDay_59 : decode cX2_passDay 59 = .ok (.invokestatic 69, 3) := by decide +kernel
theorem dX2_passDay_62 : decode cX2_passDay 62 = .ok (.iload 4, 2) := by decide +kernel
theorem dX2_passDay_64 : decode cX2_passDay 64 = .ok (.ifCond .ne 17, 3) := by decide +kernel
theorem dX2_passDay_67 : decode cX2_passDay 67 = .ok (.aload_n 0, 1) := by decide +kernel
theorem dX2_passDay_68 : decode cX2_passDay 68 = .ok (.aload_n 1, 1) := by decide +kernel
theorem dX2_passDay_69 : decode cX2_passDay 69 = .ok (.iload_n 3, 1) := by decide +kernel
theorem dX2_passDay_70 : decode cX2_passDay 70 = .ok (.aload_n 0, 1) := by decide +kernel
theorem dX2_passDay_71 : decode cX2_passDay 71 = .ok (.getfield 46, 3) := by decide +kernel
theorem dX2_passDay_74 : decode cX2_passDay 74 = .ok (.iload_n 2, 1) := by decide +kernel
theorem dX2_passDay_75 : decode cX2_passDay 75 = .ok (.invokestatic 103, 3) := by decide +kernel
theorem dX2_passDay_78 : decode cX2_passDay 78 = .ok (.invokevirtual 107, 3) := by decide +kernel
theorem dX2_passDay_81 : decode cX2_passDay 81 = .ok (.iinc 3 1, 3) := by decide +kernel
theorem dX2_passDay_84 : decode cX2_passDay 84 = .ok (.goto (-72), 3) := by decide +kernel
theorem dX2_passDay_87 : decode cX2_passDay 87 = .ok (.return_, 1) := by decide +kernel
theorem mokX2_passDay : MOK yX2_passDay cX2_passDay 5 none 2 := ⟨w4_119, w1_8, ⟨by decide, by decide⟩, by decide +kernel, by decide⟩
abbrev miX2_passDay : MI := (yX2_passDay.cls, cX2_passDay, 5, 5, false)
noncomputable def LX2_passDay_1 : Sm Unit := dLoop (fun f => (sI (sI (sR (sR fr0 0 (gR f 0)) 1 (gR f 1)) 2 (gI f 2)) 3 (gI f 3))) (dAnd (dCI r_lt (vI 3) (dGI 1 1 (dGR 5 16 (vR 1)))) (dCI r_lt (vI 3) (cI 32))) (dIf (dCI r_eq (dCall DX11_cell (aI (aR aN 0 (dGR 1 6 (dGR 5 16 (vR 1)))) 1 (vI 3))) (vI 2)) (dSeq (dSetI 4 (dCallV 2 DX2_hindrance (aI (aR (aR aN 0 (vR 0)) 1 (vR 1)) 2 (vI 3)))) (dSeq (dDo (dCall DX11_put (aI (aI (aR aN 0 (dGR 2 13 (vR 0))) 1 (vI 3)) 2 (vI 4)))) (dIf (dCZ q_eq (vI 4)) (dDo (dCallV 2 DX2_carryOut (aI (aI (aR (aR aN 0 (vR 0)) 1 (vR 1)) 2 (vI 3)) 3 (dCall DX11_hasBit (aI (aI aN 0 (dGI 2 3 (vR 0))) 1 (vI 2)))))) dSkip))) dSkip) (dInc 3 1)
theorem sLX2_passDay_1 {ΓL : Gm} {PB PK : List Nat} : SS (cvoV, .return_) miX2_passDay ΓL PB PK [(0, 2), (1, 2), (2, 0), (3, 0)] [(0, 2), (1, 2), (2, 0), (3, 0)] 12 [87] LX2_passDay_1 := t_loop (pT := 29) (pF := 87) (pu := 81) (PB' := []) (PK' := []) (XB := [81]) (XU := [84]) (fun _ _ => rfl) rfl (c_and (p1 := 23) (pT := 29) (pF := 87) (c_lt_F (pF := 87) (s_iload_n dX2_passDay_12 rfl rfl) (s_getI ck1 1 (by decide) rfl (s_getR ck5 16 (by decide) rfl (s_aload_n dX2_passDay_13 rfl rfl) dX2_passDay_14 w1_199) dX2_passDay_17 w1_92) dX2_passDay_20 rfl) (c_lt_F (pF := 87) (s_iload_n dX2_passDay_23 rfl rfl) (s_bipush dX2_passDay_24 rfl) dX2_passDay_26 rfl)) (t_if (pT := 44) (pF := 81) (X := [81]) (XA := [81]) (XB := [81]) (c_eq_F (pF := 81) (s_of_xI (x_callN (ts := [(0, 2), (1, 0)]) kX11_cell mokX11_cell w3_229 rfl rfl rfl (a_I (ts := [(0, 2)]) 1 (a_R (ts := []) 0 a_nil (s_getR ck1 6 (by decide) rfl (s_getR ck5 16 (by decide) rfl (s_aload_n dX2_passDay_29 rfl rfl) dX2_passDay_30 w1_199) dX2_passDay_33 w1_106) rfl) (s_iload_n dX2_passDay_36 rfl rfl) rfl) dX2_passDay_37 nb17)) (s_iload_n dX2_passDay_40 rfl rfl) dX2_passDay_41 rfl) (t_sq (p1 := 52) (Γ' := [(0, 2), (1, 2), (2, 0), (3, 0), (4, 0)]) (t_istore (s_of_xI (x_callV (ts := [(0, 2), (1, 2), (2, 0)]) ck2 rfl kX2_hindrance mokX2_hindrance w4_122 ps2_2 rfl rfl rfl rfl (a_I (ts := [(0, 2), (1, 2)]) 2 (a_R (ts := [(0, 2)]) 1 (a_R (ts := []) 0 a_nil (s_aload_n dX2_passDay_44 rfl rfl) rfl) (s_aload_n dX2_passDay_45 rfl rfl) rfl) (s_iload_n dX2_passDay_46 rfl rfl) rfl) dX2_passDay_47 w4_120)) dX2_passDay_50 rfl rfl) (t_sq (p1 := 62) (Γ' := [(0, 2), (1, 2), (2, 0), (3, 0), (4, 0)]) (t_do (x_callN (ts := [(0, 2), (1, 0), (2, 0)]) kX11_put mokX11_put w3_161 rfl rfl rfl (a_I (ts := [(0, 2), (1, 0)]) 2 (a_I (ts := [(0, 2)]) 1 (a_R (ts := []) 0 a_nil (s_getR ck2 13 (by decide) rfl (s_aload_n dX2_passDay_52 rfl rfl) dX2_passDay_53 w2_53) rfl) (s_iload_n dX2_passDay_56 rfl rfl) rfl) (s_iload dX2_passDay_57 rfl) rfl) dX2_passDay_59 nb18) rfl) (t_if (pT := 67) (pF := 81) (X := [81]) (XA := [81]) (XB := [81]) (c_eq_ZF (pF := 81) (s_iload dX2_passDay_62 rfl) dX2_passDay_64 rfl) (t_do (x_callV (ts := [(0, 2), (1, 2), (2, 0), (3, 0)]) ck2 rfl kX2_carryOut mokX2_carryOut w4_138 ps2_4 rfl rfl rfl rfl (a_I (ts := [(0, 2), (1, 2), (2, 0)]) 3 (a_I (ts := [(0, 2), (1, 2)]) 2 (a_R (ts := [(0, 2)]) 1 (a_R (ts := []) 0 a_nil (s_aload_n dX2_passDay_67 rfl rfl) rfl) (s_aload_n dX2_passDay_68 rfl rfl) rfl) (s_iload_n dX2_passDay_69 rfl rfl) rfl) (s_of_xI (x_callN (ts := [(0, 0), (1, 0)]) kX11_hasBit mokX11_hasBit w4_37 rfl rfl rfl (a_I (ts := [(0, 0)]) 1 (a_I (ts := []) 0 a_nil (s_getI ck2 3 (by decide) rfl (s_aload_n dX2_passDay_70 rfl rfl) dX2_passDay_71 w2_32) rfl) (s_iload_n dX2_passDay_74 rfl rfl) rfl) dX2_passDay_75 nb20)) rfl) dX2_passDay_78 w4_136) rfl) (t_skip (ld_in rfl) rfl) (lda_cons (ld_in rfl) lda_nil) (lda_cons (ld_in rfl) lda_nil)))) (t_skip (ld_in rfl) rfl) (lda_cons (ld_in rfl) lda_nil) (lda_cons (ld_in rfl) lda_nil)) (t_iinc dX2_passDay_81 rfl rfl rfl rfl) (lda_cons (ld_in rfl) lda_nil) lda_nil (lda_cons (ld_goto (y := 12) dX2_passDay_84 rfl (ld_in rfl)) lda_nil) (ld_in rfl) lda_nil
noncomputable def BX2_passDay : Sm Unit := (dSeq (dP (fI 2 6) (vR 0) (cI 0)) (dSeq (dP (fI 2 7) (vR 0) (cI 0)) (dSeq (dSeq (dSetI 3 (cI 0)) LX2_passDay_1) dRet0)))
theorem sBX2_passDay : SS (cvoV, .return_) miX2_passDay [] [] [] [(0, 2), (1, 2), (2, 0)] [(0, 2), (1, 2), (2, 0)] 0 [] BX2_passDay := (t_sq (p1 := 5) (Γ' := [(0, 2), (1, 2), (2, 0)]) (t_pI ck2 6 (by decide) rfl (Or.inl rfl) (s_aload_n dX2_passDay_0 rfl rfl) (s_iconst dX2_passDay_1 rfl) dX2_passDay_2 w2_40 rfl) (t_sq (p1 := 10) (Γ' := [(0, 2), (1, 2), (2, 0)]) (t_pI ck2 7 (by decide) rfl (Or.inl rfl) (s_aload_n dX2_passDay_5 rfl rfl) (s_iconst dX2_passDay_6 rfl) dX2_passDay_7 w2_41 rfl) (t_sq (p1 := 87) (Γ' := [(0, 2), (1, 2), (2, 0)]) (t_sq (p1 := 12) (Γ' := [(0, 2), (1, 2), (2, 0), (3, 0)]) (t_istore_n (s_iconst dX2_passDay_10 rfl) dX2_passDay_11 rfl rfl rfl) (tn_to (Γ' := [(0, 2), (1, 2), (2, 0), (3, 0)]) (XA := [87]) sLX2_passDay_1 (lda_cons (ld_in rfl) lda_nil) rfl)) (t_ret0 (fun _ _ => rfl) dX2_passDay_87))))
noncomputable def DX2_passDay : Fr → St → Option (Unit × St) := M1 (fun f => (sI (sR (sR fr0 0 (gR f 0)) 1 (gR f 1)) 2 (gI f 2))) BX2_passDay
theorem kX2_passDay : SND yX2_passDay cX2_passDay 5 none 5 [(0, 2), (1, 2), (2, 0)] cvoV DX2_passDay := snd_V (nw := 3) (by decide) (fun z => by cases z) rfl rfl (fun _ _ => rfl) sBX2_passDay
theorem dX3_note_0 : decode cX3_note 0 = .ok (.iload_n 1, 1) := by decide +kernel
theorem dX3_note_1 : decode cX3_note 1 = .ok (.ifCond .lt 9, 3) := by decide +kernel
theorem dX3_note_4 : decode cX3_note 4 = .ok (.iload_n 1, 1) := by decide +kernel
theorem dX3_note_5 : decode cX3_note 5 = .ok (.bipush 13, 2) := by decide +kernel
theorem dX3_note_7 : decode cX3_note 7 = .ok (.if_icmp .lt 4, 3) := by decide +kernel
theorem dX3_note_10 : decode cX3_note 10 = .ok (.return_, 1) := by decide +kernel
theorem dX3_note_11 : decode cX3_note 11 = .ok (.aload_n 0, 1) := by decide +kernel
theorem dX3_note_12 : decode cX3_note 12 = .ok (.getfield 12, 3) := by decide +kernel
theorem dX3_note_15 : decode cX3_note 15 = .ok (.getfield 79, 3) := by decide +kernel
theorem dX3_note_18 : decode cX3_note 18 = .ok (.iconst 0, 1) := by decide +kernel
theorem dX3_note_19 : decode cX3_note 19 = .ok (.aload_n 0, 1) := by decide +kernel
theorem dX3_note_20 : decode cX3_note 20 = .ok (.getfield 18, 3) := by decide +kernel
theorem dX3_note_23 : decode cX3_note 23 = .ok (.iload_n 1, 1) := by decide +kernel
theorem dX3_note_24 : decode cX3_note 24 = .ok (.iconst 5, 1) := by decide +kernel
theorem dX3_note_25 : decode cX3_note 25 = .ok (.imul, 1) := by decide +kernel
theorem dX3_note_26 : decode cX3_note 26 = .ok (.iconst 5, 1) := by decide +kernel
theorem dX3_note_27 : decode cX3_note 27 = .ok (.invokestatic 80, 3) := by decide +kernel
theorem dX3_note_30 : decode cX3_note 30 = .ok (.aload_n 0, 1) := by decide +kernel
theorem dX3_note_31 : decode cX3_note 31 = .ok (.getfield 12, 3) := by decide +kernel
theorem dX3_note_34 : decode cX3_note 34 = .ok (.getfield 86, 3) := by decide +kernel
theorem dX3_note_37 : decode cX3_note 37 = .ok (.iconst 0, 1) := by decide +kernel
theorem dX3_note_38 : decode cX3_note 38 = .ok (.aload_n 0, 1) := by decide +kernel
theorem dX3_note_39 : decode cX3_note 39 = .ok (.getfield 22, 3) := by decide +kernel
theorem dX3_note_42 : decode cX3_note 42 = .ok (.iload_n 1, 1) := by decide +kernel
theorem dX3_note_43 : decode cX3_note 43 = .ok (.iconst 3, 1) := by decide +kernel
theorem dX3_note_44 : decode cX3_note 44 = .ok (.imul, 1) := by decide +kernel
theorem dX3_note_45 : decode cX3_note 45 = .ok (.iconst 3, 1) := by decide +kernel
theorem dX3_note_46 : decode cX3_note 46 = .ok (.invokestatic 80, 3) := by decide +kernel
theorem dX3_note_49 : decode cX3_note 49 = .ok (.aload_n 0, 1) := by decide +kernel
theorem dX3_note_50 : decode cX3_note 50 = .ok (.getfield 12, 3) := by decide +kernel
theorem dX3_note_53 : decode cX3_note 53 = .ok (.getfield 87, 3) := by decide +kernel
theorem dX3_note_56 : decode cX3_note 56 = .ok (.iconst 0, 1) := by decide +kernel
theorem dX3_note_57 : decode cX3_note 57 = .ok (.aload_n 0, 1) := by decide +kernel
theorem dX3_note_58 : decode cX3_note 58 = .ok (.getfield 25, 3) := by decide +kernel
theorem dX3_note_61 : decode cX3_note 61 = .ok (.iload_n 1, 1) := by decide +kernel
theorem dX3_note_62 : decode cX3_note 62 = .ok (.iconst 3, 1) := by decide +kernel
theorem dX3_note_63 : decode cX3_note 63 = .ok (.imul, 1) := by decide +kernel
theorem dX3_note_64 : decode cX3_note 64 = .ok (.iconst 3, 1) := by decide +kernel
theorem dX3_note_65 : decode cX3_note 65 = .ok (.invokestatic 80, 3) := by decide +kernel
theorem dX3_note_68 : decode cX3_note 68 = .ok (.aload_n 0, 1) := by decide +kernel
theorem dX3_note_69 : decode cX3_note 69 = .ok (.getfield 12, 3) := by decide +kernel
theorem dX3_note_72 : decode cX3_note 72 = .ok (.getfield 88, 3) := by decide +kernel
theorem dX3_note_75 : decode cX3_note 75 = .ok (.iconst 0, 1) := by decide +kernel
theorem dX3_note_76 : decode cX3_note 76 = .ok (.aload_n 0, 1) := by decide +kernel
theorem dX3_note_77 : decode cX3_note 77 = .ok (.getfield 28, 3) := by decide +kernel
theorem dX3_note_80 : decode cX3_note 80 = .ok (.iload_n 1, 1) := by decide +kernel
theorem dX3_note_81 : decode cX3_note 81 = .ok (.iconst 3, 1) := by decide +kernel
theorem dX3_note_82 : decode cX3_note 82 = .ok (.imul, 1) := by decide +kernel
theorem dX3_note_83 : decode cX3_note 83 = .ok (.bipush 8, 2) := by decide +kernel
theorem dX3_note_85 : decode cX3_note 85 = .ok (.imul, 1) := by decide +kernel
theorem dX3_note_86 : decode cX3_note 86 = .ok (.bipush 24, 2) := by decide +kernel
theorem dX3_note_88 : decode cX3_note 88 = .ok (.invokestatic 80, 3) := by decide +kernel
theorem dX3_note_91 : decode cX3_note 91 = .ok (.return_, 1) := by decide +kernel
theorem mokX3_note : MOK yX3_note cX3_note 2 none 1 := ⟨w4_114, w1_7, ⟨by decide, by decide⟩, by decide +kernel, by decide⟩
abbrev miX3_note : MI := (yX3_note.cls, cX3_note, 2, 1, false)
noncomputable def BX3_note : Sm Unit := (dSeq (dIf (dOr (dCZ q_lt (vI 1)) (dCI r_ge (vI 1) (cI 13))) dRet0 dSkip) (dSeq (dCp 13 (aI (aI (aR (aI (aR aN 0 (dGR 2 8 (dGR 3 1 (vR 0)))) 1 (cI 0)) 2 (dGR 3 2 (vR 0))) 3 (d2 o_imul (vI 1) (cI 5))) 4 (cI 5))) (dSeq (dCp 13 (aI (aI (aR (aI (aR aN 0 (dGR 2 9 (dGR 3 1 (vR 0)))) 1 (cI 0)) 2 (dGR 3 3 (vR 0))) 3 (d2 o_imul (vI 1) (cI 3))) 4 (cI 3))) (dSeq (dCp 13 (aI (aI (aR (aI (aR aN 0 (dGR 2 10 (dGR 3 1 (vR 0)))) 1 (cI 0)) 2 (dGR 3 4 (vR 0))) 3 (d2 o_imul (vI 1) (cI 3))) 4 (cI 3))) (dSeq (dCp 13 (aI (aI (aR (aI (aR aN 0 (dGR 2 11 (dGR 3 1 (vR 0)))) 1 (cI 0)) 2 (dGR 3 5 (vR 0))) 3 (d2 o_imul (d2 o_imul (vI 1) (cI 3)) (cI 8))) 4 (cI 24))) dRet0)))))
theorem sBX3_note : SS (cvoV, .return_) miX3_note [] [] [] [(0, 2), (1, 0)] [(0, 2), (1, 0)] 0 [] BX3_note := (t_sq (p1 := 11) (Γ' := [(0, 2), (1, 0)]) (t_if (pT := 10) (pF := 11) (X := [11]) (XA := []) (XB := [11]) (c_or (p1 := 4) (pT := 10) (pF := 11) (c_lt_ZJ (pT := 10) (s_iload_n dX3_note_0 rfl rfl) dX3_note_1 rfl) (c_ge_F (pF := 11) (s_iload_n dX3_note_4 rfl rfl) (s_bipush dX3_note_5 rfl) dX3_note_7 rfl)) (t_ret0 (fun _ _ => rfl) dX3_note_10) (t_skip (ld_in rfl) rfl) lda_nil (lda_cons (ld_in rfl) lda_nil)) (t_sq (p1 := 30) (Γ' := [(0, 2), (1, 0)]) (t_cp (Or.inl rfl) (a_I (ts := [(0, 2), (1, 0), (2, 2), (3, 0)]) 4 (a_I (ts := [(0, 2), (1, 0), (2, 2)]) 3 (a_R (ts := [(0, 2), (1, 0)]) 2 (a_I (ts := [(0, 2)]) 1 (a_R (ts := []) 0 a_nil (s_getR ck2 8 (by decide) rfl (s_getR ck3 1 (by decide) rfl (s_aload_n dX3_note_11 rfl rfl) dX3_note_12 w2_89) dX3_note_15 w2_43) rfl) (s_iconst dX3_note_18 rfl) rfl) (s_getR ck3 2 (by decide) rfl (s_aload_n dX3_note_19 rfl rfl) dX3_note_20 w2_92) rfl) (s_imul (s_iload_n dX3_note_23 rfl rfl) (s_iconst dX3_note_24 rfl) dX3_note_25) rfl) (s_iconst dX3_note_26 rfl) rfl) rfl dX3_note_27 w4_115 w3_202 w3_201 w1_19 rfl) (t_sq (p1 := 49) (Γ' := [(0, 2), (1, 0)]) (t_cp (Or.inl rfl) (a_I (ts := [(0, 2), (1, 0), (2, 2), (3, 0)]) 4 (a_I (ts := [(0, 2), (1, 0), (2, 2)]) 3 (a_R (ts := [(0, 2), (1, 0)]) 2 (a_I (ts := [(0, 2)]) 1 (a_R (ts := []) 0 a_nil (s_getR ck2 9 (by decide) rfl (s_getR ck3 1 (by decide) rfl (s_aload_n dX3_note_30 rfl rfl) dX3_note_31 w2_89) dX3_note_34 w2_45) rfl) (s_iconst dX3_note_37 rfl) rfl) (s_getR ck3 3 (by decide) rfl (s_aload_n dX3_note_38 rfl rfl) dX3_note_39 w2_93) rfl) (s_imul (s_iload_n dX3_note_42 rfl rfl) (s_iconst dX3_note_43 rfl) dX3_note_44) rfl) (s_iconst dX3_note_45 rfl) rfl) rfl dX3_note_46 w4_115 w3_202 w3_201 w1_19 rfl) (t_sq (p1 := 68) (Γ' := [(0, 2), (1, 0)]) (t_cp (Or.inl rfl) (a_I (ts := [(0, 2), (1, 0), (2, 2), (3, 0)]) 4 (a_I (ts := [(0, 2), (1, 0), (2, 2)]) 3 (a_R (ts := [(0, 2), (1, 0)]) 2 (a_I (ts := [(0, 2)]) 1 (a_R (ts := []) 0 a_nil (s_getR ck2 10 (by decide) rfl (s_getR ck3 1 (by decide) rfl (s_aload_n dX3_note_49 rfl rfl) dX3_note_50 w2_89) dX3_note_53 w2_48) rfl) (s_iconst dX3_note_56 rfl) rfl) (s_getR ck3 4 (by decide) rfl (s_aload_n dX3_note_57 rfl rfl) dX3_note_58 w2_94) rfl) (s_imul (s_iload_n dX3_note_61 rfl rfl) (s_iconst dX3_note_62 rfl) dX3_note_63) rfl) (s_iconst dX3_note_64 rfl) rfl) rfl dX3_note_65 w4_115 w3_202 w3_201 w1_19 rfl) (t_sq (p1 := 91) (Γ' := [(0, 2), (1, 0)]) (t_cp (Or.inl rfl) (a_I (ts := [(0, 2), (1, 0), (2, 2), (3, 0)]) 4 (a_I (ts := [(0, 2), (1, 0), (2, 2)]) 3 (a_R (ts := [(0, 2), (1, 0)]) 2 (a_I (ts := [(0, 2)]) 1 (a_R (ts := []) 0 a_nil (s_getR ck2 11 (by decide) rfl (s_getR ck3 1 (by decide) rfl (s_aload_n dX3_note_68 rfl rfl) dX3_note_69 w2_89) dX3_note_72 w2_51) rfl) (s_iconst dX3_note_75 rfl) rfl) (s_getR ck3 5 (by decide) rfl (s_aload_n dX3_note_76 rfl rfl) dX3_note_77 w2_95) rfl) (s_imul (s_imul (s_iload_n dX3_note_80 rfl rfl) (s_iconst dX3_note_81 rfl) dX3_note_82) (s_bipush dX3_note_83 rfl) dX3_note_85) rfl) (s_bipush dX3_note_86 rfl) rfl) rfl dX3_note_88 w4_115 w3_202 w3_201 w1_19 rfl) (t_ret0 (fun _ _ => rfl) dX3_note_91))))))
noncomputable def DX3_note : Fr → St → Option (Unit × St) := M1 (fun f => (sI (sR fr0 0 (gR f 0)) 1 (gI f 1))) BX3_note
theorem kX3_note : SND yX3_note cX3_note 2 none 1 [(0, 2), (1, 0)] cvoV DX3_note := snd_V (nw := 2) (by decide) (fun z => by cases z) rfl rfl (fun _ _ => rfl) sBX3_note
theorem dX3_fill_0 : decode cX3_fill 0 = .ok (.aload_n 0, 1) := by decide +kernel
theorem dX3_fill_1 : decode cX3_fill 1 = .ok (.getfield 12, 3) := by decide +kernel
theorem dX3_fill_4 : decode cX3_fill 4 = .ok (.aload_n 1, 1) := by decide +kernel
theorem dX3_fill_5 : decode cX3_fill 5 = .ok (.invokevirtual 34, 3) := by decide +kernel
theorem dX3_fill_8 : decode cX3_fill 8 = .ok (.iconst 0, 1) := by decide +kernel
theorem dX3_fill_9 : decode cX3_fill 9 = .ok (.istore_n 2, 1) := by decide +kernel
theorem dX3_fill_10 : decode cX3_fill 10 = .ok (.iload_n 2, 1) := by decide +kernel
theorem dX3_fill_11 : decode cX3_fill 11 = .ok (.aload_n 1, 1) := by decide +kernel
theorem dX3_fill_12 : decode cX3_fill 12 = .ok (.getfield 38, 3) := by decide +kernel
theorem dX3_fill_15 : decode cX3_fill 15 = .ok (.if_icmp .gt 52, 3) := by decide +kernel
theorem dX3_fill_18 : decode cX3_fill 18 = .ok (.iload_n 2, 1) := by decide +kernel
theorem dX3_fill_19 : decode cX3_fill 19 = .ok (.bipush 13, 2) := by decide +kernel
theorem dX3_fill_21 : decode cX3_fill 21 = .ok (.if_icmp .ge 46, 3) := by decide +kernel
theorem dX3_fill_24 : decode cX3_fill 24 = .ok (.aload_n 0, 1) := by decide +kernel
theorem dX3_fill_25 : decode cX3_fill 25 = .ok (.iload_n 2, 1) := by decide +kernel
theorem dX3_fill_26 : decode cX3_fill 26 = .ok (.invokevirtual 44, 3) := by decide +kernel
theorem dX3_fill_29 : decode cX3_fill 29 = .ok (.iload_n 2, 1) := by decide +kernel
theorem dX3_fill_30 : decode cX3_fill 30 = .ok (.aload_n 1, 1) := by decide +kernel
theorem dX3_fill_31 : decode cX3_fill 31 = .ok (.getfield 38, 3) := by decide +kernel
theorem dX3_fill_34 : decode cX3_fill 34 = .ok (.if_icmp .ge 27, 3) := by decide +kernel
theorem dX3_fill_37 : decode cX3_fill 37 = .ok (.aload_n 0, 1) := by decide +kernel
theorem dX3_fill_38 : decode cX3_fill 38 = .ok (.getfield 12, 3) := by decide +kernel
theorem dX3_fill_41 : decode cX3_fill 41 = .ok (.aload_n 1, 1) := by decide +kernel
theorem dX3_fill_42 : decode cX3_fill 42 = .ok (.iload_n 2, 1) := by decide +kernel
theorem dX3_fill_43 : decode cX3_fill 43 = .ok (.invokevirtual 48, 3) := by decide +kernel
theorem dX3_fill_46 : decode cX3_fill 46 = .ok (.aload_n 0, 1) := by decide +kernel
theorem dX3_fill_47 : decode cX3_fill 47 = .ok (.getfield 31, 3) := by decide +kernel
theorem dX3_fill_50 : decode cX3_fill 50 = .ok (.iload_n 2, 1) := by decide +kernel
theorem dX3_fill_51 : decode cX3_fill 51 = .ok (.aload_n 0, 1) := by decide +kernel
theorem dX3_fill_52 : decode cX3_fill 52 = .ok (.getfield 12, 3) := by decide +kernel
theorem dX3_fill_55 : decode cX3_fill 55 = .ok (.getfield 52, 3) := by decide +kernel
theorem dX3_fill_58 : decode cX3_fill 58 = .ok (.invokestatic 54, 3) := by decide +kernel
theorem dX3_fill_61 : decode cX3_fill 61 = .ok (.iinc 2 1, 3) := by decide +kernel
theorem dX3_fill_64 : decode cX3_fill 64 = .ok (.goto (-54), 3) := by decide +kernel
theorem dX3_fill_67 : decode cX3_fill 67 = .ok (.return_, 1) := by decide +kernel
theorem mokX3_fill : MOK yX3_fill cX3_fill 3 none 1 := ⟨w4_90, w1_7, ⟨by decide, by decide⟩, by decide +kernel, by decide⟩
abbrev miX3_fill : MI := (yX3_fill.cls, cX3_fill, 3, 6, false)
noncomputable def LX3_fill_1 : Sm Unit := dLoop (fun f => (sI (sR (sR fr0 0 (gR f 0)) 1 (gR f 1)) 2 (gI f 2))) (dAnd (dCI r_le (vI 2) (dGI 5 1 (vR 1))) (dCI r_lt (vI 2) (cI 13))) (dSeq (dDo (dCallV 3 DX3_note (aI (aR aN 0 (vR 0)) 1 (vI 2)))) (dIf (dCI r_lt (vI 2) (dGI 5 1 (vR 1))) (dSeq (dDo (dCallV 2 DX2_passDay (aI (aR (aR aN 0 (dGR 3 1 (vR 0))) 1 (vR 1)) 2 (vI 2)))) (dDo (dCall DX11_put (aI (aI (aR aN 0 (dGR 3 6 (vR 0))) 1 (vI 2)) 2 (dGI 2 6 (dGR 3 1 (vR 0))))))) dSkip)) (dInc 2 1)
theorem sLX3_fill_1 {ΓL : Gm} {PB PK : List Nat} : SS (cvoV, .return_) miX3_fill ΓL PB PK [(0, 2), (1, 2), (2, 0)] [(0, 2), (1, 2), (2, 0)] 10 [67] LX3_fill_1 := t_loop (pT := 24) (pF := 67) (pu := 61) (PB' := []) (PK' := []) (XB := [61]) (XU := [64]) (fun _ _ => rfl) rfl (c_and (p1 := 18) (pT := 24) (pF := 67) (c_le_F (pF := 67) (s_iload_n dX3_fill_10 rfl rfl) (s_getI ck5 1 (by decide) rfl (s_aload_n dX3_fill_11 rfl rfl) dX3_fill_12 w1_134) dX3_fill_15 rfl) (c_lt_F (pF := 67) (s_iload_n dX3_fill_18 rfl rfl) (s_bipush dX3_fill_19 rfl) dX3_fill_21 rfl)) (t_sq (p1 := 29) (Γ' := [(0, 2), (1, 2), (2, 0)]) (t_do (x_callV (ts := [(0, 2), (1, 0)]) ck3 rfl kX3_note mokX3_note w4_113 ps2_1 rfl rfl rfl rfl (a_I (ts := [(0, 2)]) 1 (a_R (ts := []) 0 a_nil (s_aload_n dX3_fill_24 rfl rfl) rfl) (s_iload_n dX3_fill_25 rfl rfl) rfl) dX3_fill_26 w4_111) rfl) (t_if (pT := 37) (pF := 61) (X := [61]) (XA := [61]) (XB := [61]) (c_lt_F (pF := 61) (s_iload_n dX3_fill_29 rfl rfl) (s_getI ck5 1 (by decide) rfl (s_aload_n dX3_fill_30 rfl rfl) dX3_fill_31 w1_134) dX3_fill_34 rfl) (t_sq (p1 := 46) (Γ' := [(0, 2), (1, 2), (2, 0)]) (t_do (x_callV (ts := [(0, 2), (1, 2), (2, 0)]) ck2 rfl kX2_passDay mokX2_passDay w4_117 w4_118 rfl rfl rfl rfl (a_I (ts := [(0, 2), (1, 2)]) 2 (a_R (ts := [(0, 2)]) 1 (a_R (ts := []) 0 a_nil (s_getR ck3 1 (by decide) rfl (s_aload_n dX3_fill_37 rfl rfl) dX3_fill_38 w2_89) rfl) (s_aload_n dX3_fill_41 rfl rfl) rfl) (s_iload_n dX3_fill_42 rfl rfl) rfl) dX3_fill_43 w4_116) rfl) (t_do (x_callN (ts := [(0, 2), (1, 0), (2, 0)]) kX11_put mokX11_put w3_161 rfl rfl rfl (a_I (ts := [(0, 2), (1, 0)]) 2 (a_I (ts := [(0, 2)]) 1 (a_R (ts := []) 0 a_nil (s_getR ck3 6 (by decide) rfl (s_aload_n dX3_fill_46 rfl rfl) dX3_fill_47 w2_96) rfl) (s_iload_n dX3_fill_50 rfl rfl) rfl) (s_getI ck2 6 (by decide) rfl (s_getR ck3 1 (by decide) rfl (s_aload_n dX3_fill_51 rfl rfl) dX3_fill_52 w2_89) dX3_fill_55 w2_39) rfl) dX3_fill_58 nb22) rfl)) (t_skip (ld_in rfl) rfl) (lda_cons (ld_in rfl) lda_nil) (lda_cons (ld_in rfl) lda_nil))) (t_iinc dX3_fill_61 rfl rfl rfl rfl) (lda_cons (ld_in rfl) lda_nil) lda_nil (lda_cons (ld_goto (y := 10) dX3_fill_64 rfl (ld_in rfl)) lda_nil) (ld_in rfl) lda_nil
noncomputable def BX3_fill : Sm Unit := (dSeq (dDo (dCallV 2 DX2_begin (aR (aR aN 0 (dGR 3 1 (vR 0))) 1 (vR 1)))) (dSeq (dSeq (dSetI 2 (cI 0)) LX3_fill_1) dRet0))
theorem sBX3_fill : SS (cvoV, .return_) miX3_fill [] [] [] [(0, 2), (1, 2)] [(0, 2), (1, 2)] 0 [] BX3_fill := (t_sq (p1 := 8) (Γ' := [(0, 2), (1, 2)]) (t_do (x_callV (ts := [(0, 2), (1, 2)]) ck2 rfl kX2_begin mokX2_begin w4_92 w4_93 rfl rfl rfl rfl (a_R (ts := [(0, 2)]) 1 (a_R (ts := []) 0 a_nil (s_getR ck3 1 (by decide) rfl (s_aload_n dX3_fill_0 rfl rfl) dX3_fill_1 w2_89) rfl) (s_aload_n dX3_fill_4 rfl rfl) rfl) dX3_fill_5 w4_91) rfl) (t_sq (p1 := 67) (Γ' := [(0, 2), (1, 2)]) (t_sq (p1 := 10) (Γ' := [(0, 2), (1, 2), (2, 0)]) (t_istore_n (s_iconst dX3_fill_8 rfl) dX3_fill_9 rfl rfl rfl) (tn_to (Γ' := [(0, 2), (1, 2), (2, 0)]) (XA := [67]) sLX3_fill_1 (lda_cons (ld_in rfl) lda_nil) rfl)) (t_ret0 (fun _ _ => rfl) dX3_fill_67)))
noncomputable def DX3_fill : Fr → St → Option (Unit × St) := M1 (fun f => (sR (sR fr0 0 (gR f 0)) 1 (gR f 1))) BX3_fill
theorem kX3_fill : SND yX3_fill cX3_fill 3 none 6 [(0, 2), (1, 2)] cvoV DX3_fill := snd_V (nw := 2) (by decide) (fun z => by cases z) rfl rfl (fun _ _ => rfl) sBX3_fill
theorem dX11_today_0 : decode cX11_today 0 = .ok (.aload_n 0, 1) := by decide +kernel
theorem dX11_today_1 : decode cX11_today 1 = .ok (.getfield 47, 3) := by decide +kernel
theorem dX11_today_4 : decode cX11_today 4 = .ok (.getfield 441, 3) := by decide +kernel
theorem dX11_today_7 : decode cX11_today 7 = .ok (.ifCond .ne 36, 3) := by decide +kernel
theorem dX11_today_10 : decode cX11_today 10 = .ok (.aload_n 0, 1) := by decide +kernel
theorem dX11_today_11 : decode cX11_today 11 = .ok (.getfield 47, 3) := by decide +kernel
theorem dX11_today_14 : decode cX11_today 14 = .ok (.getfield 332, 3) := by decide +kernel
theorem dX11_today_17 : decode cX11_today 17 = .ok (.aload_n 0, 1) := by decide +kernel
theorem dX11_today_18 : decode cX11_today 18 = .ok (.getfield 26, 3) := by decide +kernel
theorem dX11_today_21 : decode cX11_today 21 = .ok (.invokevirtual 336, 3) := by decide +kernel
theorem dX11_today_24 : decode cX11_today 24 = .ok (.aload_n 0, 1) := by decide +kernel
theorem dX11_today_25 : decode cX11_today 25 = .ok (.getfield 47, 3) := by decide +kernel
theorem dX11_today_28 : decode cX11_today 28 = .ok (.aload_n 0, 1) := by decide +kernel
theorem dX11_today_29 : decode cX11_today 29 = .ok (.getfield 26, 3) := by decide +kernel
theorem dX11_today_32 : decode cX11_today 32 = .ok (.invokevirtual 344, 3) := by decide +kernel
theorem dX11_today_35 : decode cX11_today 35 = .ok (.aload_n 0, 1) := by decide +kernel
theorem dX11_today_36 : decode cX11_today 36 = .ok (.getfield 47, 3) := by decide +kernel
theorem dX11_today_39 : decode cX11_today 39 = .ok (.iconst 1, 1) := by decide +kernel
theorem dX11_today_40 : decode cX11_today 40 = .ok (.putfield 441, 3) := by decide +kernel
theorem dX11_today_43 : decode cX11_today 43 = .ok (.aload_n 0, 1) := by decide +kernel
theorem dX11_today_44 : decode cX11_today 44 = .ok (.getfield 47, 3) := by decide +kernel
theorem dX11_today_47 : decode cX11_today 47 = .ok (.areturn, 1) := by decide +kernel
theorem mokX11_today : MOK yX11_today cX11_today 1 (some (.object "SlateHands$Diary")) 0 := ⟨w4_82, w1_1, ⟨by decide, by decide⟩, by decide +kernel, by decide⟩
abbrev miX11_today : MI := (yX11_today.cls, cX11_today, 1, 7, false)
noncomputable def BX11_today : Sm Nat := (dSeq (dIf (dNot (dCZ q_ne (dGI 3 0 (dGR 11 6 (vR 0))))) (dSeq (dDo (dCallV 2 DX2_setAsTold (aR (aR aN 0 (dGR 3 1 (dGR 11 6 (vR 0)))) 1 (dGR 11 2 (vR 0))))) (dSeq (dDo (dCallV 3 DX3_fill (aR (aR aN 0 (dGR 11 6 (vR 0))) 1 (dGR 11 2 (vR 0))))) (dP (fZ 3 0) (dGR 11 6 (vR 0)) (cI 1)))) dSkip) (dRet (dGR 11 6 (vR 0))))
theorem sBX11_today : SS (cvoR, .areturn) miX11_today [] [] [] [(0, 2)] [(0, 2)] 0 [] BX11_today := (t_sq (p1 := 43) (Γ' := [(0, 2)]) (t_if (pT := 10) (pF := 43) (X := [43]) (XA := [43]) (XB := [43]) (c_not (pT := 10) (pF := 43) (c_ne_ZJ (pT := 43) (s_getI ck3 0 (by decide) rfl (s_getR ck11 6 (by decide) rfl (s_aload_n dX11_today_0 rfl rfl) dX11_today_1 w2_224) dX11_today_4 w2_88) dX11_today_7 rfl)) (t_sq (p1 := 24) (Γ' := [(0, 2)]) (t_do (x_callV (ts := [(0, 2), (1, 2)]) ck2 rfl kX2_setAsTold mokX2_setAsTold w4_84 w4_85 rfl rfl rfl rfl (a_R (ts := [(0, 2)]) 1 (a_R (ts := []) 0 a_nil (s_getR ck3 1 (by decide) rfl (s_getR ck11 6 (by decide) rfl (s_aload_n dX11_today_10 rfl rfl) dX11_today_11 w2_224) dX11_today_14 w2_91) rfl) (s_getR ck11 2 (by decide) rfl (s_aload_n dX11_today_17 rfl rfl) dX11_today_18 w2_220) rfl) dX11_today_21 w4_83) rfl) (t_sq (p1 := 35) (Γ' := [(0, 2)]) (t_do (x_callV (ts := [(0, 2), (1, 2)]) ck3 rfl kX3_fill mokX3_fill w4_88 w4_89 rfl rfl rfl rfl (a_R (ts := [(0, 2)]) 1 (a_R (ts := []) 0 a_nil (s_getR ck11 6 (by decide) rfl (s_aload_n dX11_today_24 rfl rfl) dX11_today_25 w2_224) rfl) (s_getR ck11 2 (by decide) rfl (s_aload_n dX11_today_28 rfl rfl) dX11_today_29 w2_220) rfl) dX11_today_32 w4_87) rfl) (t_pZ ck3 0 (by decide) rfl (Or.inl rfl) (s_getR ck11 6 (by decide) rfl (s_aload_n dX11_today_35 rfl rfl) dX11_today_36 w2_224) (s_iconst dX11_today_39 rfl) dX11_today_40 w2_88 rfl))) (t_skip (ld_in rfl) rfl) (lda_cons (ld_in rfl) lda_nil) (lda_cons (ld_in rfl) lda_nil)) (t_ret (cv := cvR) (fun _ _ => rfl) (s_getR ck11 6 (by decide) rfl (s_aload_n dX11_today_43 rfl rfl) dX11_today_44 w2_224) dX11_today_47))
noncomputable def DX11_today : Fr → St → Option (Nat × St) := M1 (fun f => (sR fr0 0 (gR f 0))) BX11_today
theorem kX11_today : SND yX11_today cX11_today 1 (some (.object "SlateHands$Diary")) 7 [(0, 2)] cvoR DX11_today := snd_R "SlateHands$Diary" (nw := 1) (by decide) rfl rfl (fun _ _ => rfl) sBX11_today
theorem dX3_carrierOn_0 : decode cX3_carrierOn 0 = .ok (.aload_n 0, 1) := by decide +kernel
theorem dX3_carrierOn_1 : decode cX3_carrierOn 1 = .ok (.getfield 18, 3) := by decide +kernel
theorem dX3_carrierOn_4 : decode cX3_carrierOn 4 = .ok (.iload_n 2, 1) := by decide +kernel
theorem dX3_carrierOn_5 : decode cX3_carrierOn 5 = .ok (.iconst 5, 1) := by decide +kernel
theorem dX3_carrierOn_6 : decode cX3_carrierOn 6 = .ok (.imul, 1) := by decide +kernel
theorem dX3_carrierOn_7 : decode cX3_carrierOn 7 = .ok (.iload_n 1, 1) := by decide +kernel
theorem dX3_carrierOn_8 : decode cX3_carrierOn 8 = .ok (.iadd, 1) := by decide +kernel
theorem dX3_carrierOn_9 : decode cX3_carrierOn 9 = .ok (.invokestatic 58, 3) := by decide +kernel
theorem dX3_carrierOn_12 : decode cX3_carrierOn 12 = .ok (.ireturn, 1) := by decide +kernel
theorem mokX3_carrierOn : MOK yX3_carrierOn cX3_carrierOn 3 (some .int) 2 := ⟨w4_148, w1_7, ⟨by decide, by decide⟩, by decide +kernel, by decide⟩
abbrev miX3_carrierOn : MI := (yX3_carrierOn.cls, cX3_carrierOn, 3, 2, false)
noncomputable def BX3_carrierOn : Sm Int32 := (dRet (dCall DX11_cell (aI (aR aN 0 (dGR 3 2 (vR 0))) 1 (d2 o_iadd (d2 o_imul (vI 2) (cI 5)) (vI 1)))))
theorem sBX3_carrierOn : SS (cvoI, .ireturn) miX3_carrierOn [] [] [] [(0, 2), (1, 0), (2, 0)] [(0, 2), (1, 0), (2, 0)] 0 [] BX3_carrierOn := (t_ret (cv := cvI) (fun _ _ => rfl) (s_of_xI (x_callN (ts := [(0, 2), (1, 0)]) kX11_cell mokX11_cell w3_229 rfl rfl rfl (a_I (ts := [(0, 2)]) 1 (a_R (ts := []) 0 a_nil (s_getR ck3 2 (by decide) rfl (s_aload_n dX3_carrierOn_0 rfl rfl) dX3_carrierOn_1 w2_92) rfl) (s_iadd (s_imul (s_iload_n dX3_carrierOn_4 rfl rfl) (s_iconst dX3_carrierOn_5 rfl) dX3_carrierOn_6) (s_iload_n dX3_carrierOn_7 rfl rfl) dX3_carrierOn_8) rfl) dX3_carrierOn_9 nb23)) dX3_carrierOn_12)
noncomputable def DX3_carrierOn : Fr → St → Option (Int32 × St) := M1 (fun f => (sI (sI (sR fr0 0 (gR f 0)) 1 (gI f 1)) 2 (gI f 2))) BX3_carrierOn
theorem kX3_carrierOn : SND yX3_carrierOn cX3_carrierOn 3 (some .int) 2 [(0, 2), (1, 0), (2, 0)] cvoI DX3_carrierOn := snd_I (nw := 3) (by decide) rfl rfl (fun _ _ => rfl) sBX3_carrierOn
theorem dX5_isTold_0 : decode cX5_isTold 0 = .ok (.aload_n 0, 1) := by decide +kernel
theorem dX5_isTold_1 : decode cX5_isTold 1 = .ok (.getfield 43, 3) := by decide +kernel
theorem dX5_isTold_4 : decode cX5_isTold 4 = .ok (.ifCond .le 7, 3) := by decide +kernel
theorem dX5_isTold_7 : decode cX5_isTold 7 = .ok (.iconst 1, 1) := by decide +kernel
theorem dX5_isTold_8 : decode cX5_isTold 8 = .ok (.goto 4, 3) := by decide +kernel
theorem dX5_isTold_11 : decode cX5_isTold 11 = .ok (.iconst 0, 1) := by decide +kernel
theorem dX5_isTold_12 : decode cX5_isTold 12 = .ok (.ireturn, 1) := by decide +kernel
theorem mokX5_isTold : MOK yX5_isTold cX5_isTold 1 (some .boolean) 0 := ⟨w4_78, w1_4, ⟨by decide, by decide⟩, by decide +kernel, by decide⟩
abbrev miX5_isTold : MI := (yX5_isTold.cls, cX5_isTold, 1, 1, false)
noncomputable def BX5_isTold : Sm Int32 := (dRet (dB (dCZ q_gt (dGI 5 0 (vR 0)))))
theorem sBX5_isTold : SS (cvoI, .ireturn) miX5_isTold [] [] [] [(0, 2)] [(0, 2)] 0 [] BX5_isTold := (t_ret (cv := cvI) (fun _ _ => rfl) (s_B (pT := 7) (pF := 11) (pe := 12) (c_gt_ZF (pF := 11) (s_getI ck5 0 (by decide) rfl (s_aload_n dX5_isTold_0 rfl rfl) dX5_isTold_1 w1_130) dX5_isTold_4 rfl) dX5_isTold_7 dX5_isTold_8 rfl dX5_isTold_11 rfl) dX5_isTold_12)
noncomputable def DX5_isTold : Fr → St → Option (Int32 × St) := MZ (fun f => (sR fr0 0 (gR f 0))) BX5_isTold
theorem kX5_isTold : SND yX5_isTold cX5_isTold 1 (some .boolean) 1 [(0, 2)] cvoI DX5_isTold := snd_Z (nw := 1) (by decide) rfl rfl (fun _ _ => rfl) sBX5_isTold
theorem dX5_isDay_0 : decode cX5_isDay 0 = .ok (.aload_n 0, 1) := by decide +kernel
theorem dX5_isDay_1 : decode cX5_isDay 1 = .ok (.invokevirtual 92, 3) := by decide +kernel
theorem dX5_isDay_4 : decode cX5_isDay 4 = .ok (.ifCond .eq 19, 3) := by decide +kernel
theorem dX5_isDay_7 : decode cX5_isDay 7 = .ok (.iload_n 1, 1) := by decide +kernel
theorem dX5_isDay_8 : decode cX5_isDay 8 = .ok (.ifCond .lt 15, 3) := by decide +kernel
theorem dX5_isDay_11 : decode cX5_isDay 11 = .ok (.iload_n 1, 1) := by decide +kernel
theorem dX5_isDay_12 : decode cX5_isDay 12 = .ok (.aload_n 0, 1) := by decide +kernel
theorem dX5_isDay_13 : decode cX5_isDay 13 = .ok (.getfield 47, 3) := by decide +kernel
theorem dX5_isDay_16 : decode cX5_isDay 16 = .ok (.if_icmp .gt 7, 3) := by decide +kernel
theorem dX5_isDay_19 : decode cX5_isDay 19 = .ok (.iconst 1, 1) := by decide +kernel
theorem dX5_isDay_20 : decode cX5_isDay 20 = .ok (.goto 4, 3) := by decide +kernel
theorem dX5_isDay_23 : decode cX5_isDay 23 = .ok (.iconst 0, 1) := by decide +kernel
theorem dX5_isDay_24 : decode cX5_isDay 24 = .ok (.ireturn, 1) := by decide +kernel
theorem mokX5_isDay : MOK yX5_isDay cX5_isDay 2 (some .boolean) 1 := ⟨w4_74, w1_4, ⟨by decide, by decide⟩, by decide +kernel, by decide⟩
abbrev miX5_isDay : MI := (yX5_isDay.cls, cX5_isDay, 2, 2, false)
noncomputable def BX5_isDay : Sm Int32 := (dRet (dB (dAnd (dAnd (dCZ q_ne (dCallV 5 DX5_isTold (aR aN 0 (vR 0)))) (dCZ q_ge (vI 1))) (dCI r_le (vI 1) (dGI 5 1 (vR 0))))))
theorem sBX5_isDay : SS (cvoI, .ireturn) miX5_isDay [] [] [] [(0, 2), (1, 0)] [(0, 2), (1, 0)] 0 [] BX5_isDay := (t_ret (cv := cvI) (fun _ _ => rfl) (s_B (pT := 19) (pF := 23) (pe := 24) (c_and (p1 := 11) (pT := 19) (pF := 23) (c_and (p1 := 7) (pT := 11) (pF := 23) (c_ne_ZF (pF := 23) (s_of_xI (x_callV (ts := [(0, 2)]) ck5 rfl kX5_isTold mokX5_isTold w4_76 w4_77 rfl rfl rfl rfl (a_R (ts := []) 0 a_nil (s_aload_n dX5_isDay_0 rfl rfl) rfl) dX5_isDay_1 w4_75)) dX5_isDay_4 rfl) (c_ge_ZF (pF := 23) (s_iload_n dX5_isDay_7 rfl rfl) dX5_isDay_8 rfl)) (c_le_F (pF := 23) (s_iload_n dX5_isDay_11 rfl rfl) (s_getI ck5 1 (by decide) rfl (s_aload_n dX5_isDay_12 rfl rfl) dX5_isDay_13 w1_133) dX5_isDay_16 rfl)) dX5_isDay_19 dX5_isDay_20 rfl dX5_isDay_23 rfl) dX5_isDay_24)
noncomputable def DX5_isDay : Fr → St → Option (Int32 × St) := MZ (fun f => (sI (sR fr0 0 (gR f 0)) 1 (gI f 1))) BX5_isDay
theorem kX5_isDay : SND yX5_isDay cX5_isDay 2 (some .boolean) 2 [(0, 2), (1, 0)] cvoI DX5_isDay := snd_Z (nw := 2) (by decide) rfl rfl (fun _ _ => rfl) sBX5_isDay
theorem dX11_at_0 : decode cX11_at 0 = .ok (.aload_n 0, 1) := by decide +kernel
theorem dX11_at_1 : decode cX11_at 1 = .ok (.getfield 26, 3) := by decide +kernel
theorem dX11_at_4 : decode cX11_at 4 = .ok (.iload_n 1, 1) := by decide +kernel
theorem dX11_at_5 : decode cX11_at 5 = .ok (.invokevirtual 128, 3) := by decide +kernel
theorem dX11_at_8 : decode cX11_at 8 = .ok (.ifCond .eq 14, 3) := by decide +kernel
theorem dX11_at_11 : decode cX11_at 11 = .ok (.aload_n 0, 1) := by decide +kernel
theorem dX11_at_12 : decode cX11_at 12 = .ok (.getfield 26, 3) := by decide +kernel
theorem dX11_at_15 : decode cX11_at 15 = .ok (.iload_n 2, 1) := by decide +kernel
theorem dX11_at_16 : decode cX11_at 16 = .ok (.invokevirtual 164, 3) := by decide +kernel
theorem dX11_at_19 : decode cX11_at 19 = .ok (.ifCond .ne 6, 3) := by decide +kernel
theorem dX11_at_22 : decode cX11_at 22 = .ok (.bipush (-2), 2) := by decide +kernel
theorem dX11_at_24 : decode cX11_at 24 = .ok (.ireturn, 1) := by decide +kernel
theorem dX11_at_25 : decode cX11_at 25 = .ok (.aload_n 0, 1) := by decide +kernel
theorem dX11_at_26 : decode cX11_at 26 = .ok (.invokevirtual 167, 3) := by decide +kernel
theorem dX11_at_29 : decode cX11_at 29 = .ok (.iload_n 1, 1) := by decide +kernel
theorem dX11_at_30 : decode cX11_at 30 = .ok (.iload_n 2, 1) := by decide +kernel
theorem dX11_at_31 : decode cX11_at 31 = .ok (.invokevirtual 171, 3) := by decide +kernel
theorem dX11_at_34 : decode cX11_at 34 = .ok (.ireturn, 1) := by decide +kernel
theorem mokX11_at : MOK yX11_at cX11_at 3 (some .int) 2 := ⟨w4_70, w1_1, ⟨by decide, by decide⟩, by decide +kernel, by decide⟩
abbrev miX11_at : MI := (yX11_at.cls, cX11_at, 3, 8, false)
noncomputable def BX11_at : Sm Int32 := (dSeq (dIf (dOr (dNot (dCZ q_ne (dCallV 5 DX5_isCarrier (aI (aR aN 0 (dGR 11 2 (vR 0))) 1 (vI 1))))) (dNot (dCZ q_ne (dCallV 5 DX5_isDay (aI (aR aN 0 (dGR 11 2 (vR 0))) 1 (vI 2)))))) (dRet (cI (-2))) dSkip) (dRet (dCallV 3 DX3_carrierOn (aI (aI (aR aN 0 (dCallV 11 DX11_today (aR aN 0 (vR 0)))) 1 (vI 1)) 2 (vI 2)))))
theorem sBX11_at : SS (cvoI, .ireturn) miX11_at [] [] [] [(0, 2), (1, 0), (2, 0)] [(0, 2), (1, 0), (2, 0)] 0 [] BX11_at := (t_sq (p1 := 25) (Γ' := [(0, 2), (1, 0), (2, 0)]) (t_if (pT := 22) (pF := 25) (X := [25]) (XA := []) (XB := [25]) (c_or (p1 := 11) (pT := 22) (pF := 25) (c_not (pT := 22) (pF := 11) (c_ne_ZF (pF := 22) (s_of_xI (x_callV (ts := [(0, 2), (1, 0)]) ck5 rfl kX5_isCarrier mokX5_isCarrier w3_236 w3_237 rfl rfl rfl rfl (a_I (ts := [(0, 2)]) 1 (a_R (ts := []) 0 a_nil (s_getR ck11 2 (by decide) rfl (s_aload_n dX11_at_0 rfl rfl) dX11_at_1 w2_220) rfl) (s_iload_n dX11_at_4 rfl rfl) rfl) dX11_at_5 w3_235)) dX11_at_8 rfl)) (c_not (pT := 22) (pF := 25) (c_ne_ZJ (pT := 25) (s_of_xI (x_callV (ts := [(0, 2), (1, 0)]) ck5 rfl kX5_isDay mokX5_isDay w4_72 w4_73 rfl rfl rfl rfl (a_I (ts := [(0, 2)]) 1 (a_R (ts := []) 0 a_nil (s_getR ck11 2 (by decide) rfl (s_aload_n dX11_at_11 rfl rfl) dX11_at_12 w2_220) rfl) (s_iload_n dX11_at_15 rfl rfl) rfl) dX11_at_16 w4_71)) dX11_at_19 rfl))) (t_ret (cv := cvI) (fun _ _ => rfl) (s_bipush dX11_at_22 rfl) dX11_at_24) (t_skip (ld_in rfl) rfl) lda_nil (lda_cons (ld_in rfl) lda_nil)) (t_ret (cv := cvI) (fun _ _ => rfl) (s_of_xI (x_callV (ts := [(0, 2), (1, 0), (2, 0)]) ck3 rfl kX3_carrierOn mokX3_carrierOn w4_146 w4_147 rfl rfl rfl rfl (a_I (ts := [(0, 2), (1, 0)]) 2 (a_I (ts := [(0, 2)]) 1 (a_R (ts := []) 0 a_nil (s_of_xR (x_callV (ts := [(0, 2)]) ck11 rfl kX11_today mokX11_today w4_81 ps2_0 rfl rfl rfl rfl (a_R (ts := []) 0 a_nil (s_aload_n dX11_at_25 rfl rfl) rfl) dX11_at_26 w4_79)) rfl) (s_iload_n dX11_at_29 rfl rfl) rfl) (s_iload_n dX11_at_30 rfl rfl) rfl) dX11_at_31 w4_145)) dX11_at_34))
noncomputable def DX11_at : Fr → St → Option (Int32 × St) := M1 (fun f => (sI (sI (sR fr0 0 (gR f 0)) 1 (gI f 1)) 2 (gI f 2))) BX11_at
theorem kX11_at : SND yX11_at cX11_at 3 (some .int) 8 [(0, 2), (1, 0), (2, 0)] cvoI DX11_at := snd_I (nw := 3) (by decide) rfl rfl (fun _ _ => rfl) sBX11_at
theorem dX11_isSlateOn_0 : decode cX11_isSlateOn 0 = .ok (.aload_n 0, 1) := by decide +kernel
theorem dX11_isSlateOn_1 : decode cX11_isSlateOn 1 = .ok (.getfield 26, 3) := by decide +kernel
theorem dX11_isSlateOn_4 : decode cX11_isSlateOn 4 = .ok (.iload_n 1, 1) := by decide +kernel
theorem dX11_isSlateOn_5 : decode cX11_isSlateOn 5 = .ok (.invokevirtual 140, 3) := by decide +kernel
theorem dX11_isSlateOn_8 : decode cX11_isSlateOn 8 = .ok (.ifCond .eq 18, 3) := by decide +kernel
theorem dX11_isSlateOn_11 : decode cX11_isSlateOn 11 = .ok (.aload_n 0, 1) := by decide +kernel
theorem dX11_isSlateOn_12 : decode cX11_isSlateOn 12 = .ok (.getfield 26, 3) := by decide +kernel
theorem dX11_isSlateOn_15 : decode cX11_isSlateOn 15 = .ok (.iload_n 2, 1) := by decide +kernel
theorem dX11_isSlateOn_16 : decode cX11_isSlateOn 16 = .ok (.invokevirtual 164, 3) := by decide +kernel
theorem dX11_isSlateOn_19 : decode cX11_isSlateOn 19 = .ok (.ifCond .eq 7, 3) := by decide +kernel
theorem dX11_isSlateOn_22 : decode cX11_isSlateOn 22 = .ok (.iconst 1, 1) := by decide +kernel
theorem dX11_isSlateOn_23 : decode cX11_isSlateOn 23 = .ok (.goto 4, 3) := by decide +kernel
theorem dX11_isSlateOn_26 : decode cX11_isSlateOn 26 = .ok (.iconst 0, 1) := by decide +kernel
theorem dX11_isSlateOn_27 : decode cX11_isSlateOn 27 = .ok (.ireturn, 1) := by decide +kernel
theorem mokX11_isSlateOn : MOK yX11_isSlateOn cX11_isSlateOn 3 (some .boolean) 2 := ⟨w4_157, w1_1, ⟨by decide, by decide⟩, by decide +kernel, by decide⟩
abbrev miX11_isSlateOn : MI := (yX11_isSlateOn.cls, cX11_isSlateOn, 3, 3, false)
noncomputable def BX11_isSlateOn : Sm Int32 := (dRet (dB (dAnd (dCZ q_ne (dCallV 5 DX5_isSlate (aI (aR aN 0 (dGR 11 2 (vR 0))) 1 (vI 1)))) (dCZ q_ne (dCallV 5 DX5_isDay (aI (aR aN 0 (dGR 11 2 (vR 0))) 1 (vI 2)))))))
theorem sBX11_isSlateOn : SS (cvoI, .ireturn) miX11_isSlateOn [] [] [] [(0, 2), (1, 0), (2, 0)] [(0, 2), (1, 0), (2, 0)] 0 [] BX11_isSlateOn := (t_ret (cv := cvI) (fun _ _ => rfl) (s_B (pT := 22) (pF := 26) (pe := 27) (c_and (p1 := 11) (pT := 22) (pF := 26) (c_ne_ZF (pF := 26) (s_of_xI (x_callV (ts := [(0, 2), (1, 0)]) ck5 rfl kX5_isSlate mokX5_isSlate w4_7 w4_8 rfl rfl rfl rfl (a_I (ts := [(0, 2)]) 1 (a_R (ts := []) 0 a_nil (s_getR ck11 2 (by decide) rfl (s_aload_n dX11_isSlateOn_0 rfl rfl) dX11_isSlateOn_1 w2_220) rfl) (s_iload_n dX11_isSlateOn_4 rfl rfl) rfl) dX11_isSlateOn_5 w4_6)) dX11_isSlateOn_8 rfl) (c_ne_ZF (pF := 26) (s_of_xI (x_callV (ts := [(0, 2), (1, 0)]) ck5 rfl kX5_isDay mokX5_isDay w4_72 w4_73 rfl rfl rfl rfl (a_I (ts := [(0, 2)]) 1 (a_R (ts := []) 0 a_nil (s_getR ck11 2 (by decide) rfl (s_aload_n dX11_isSlateOn_11 rfl rfl) dX11_isSlateOn_12 w2_220) rfl) (s_iload_n dX11_isSlateOn_15 rfl rfl) rfl) dX11_isSlateOn_16 w4_71)) dX11_isSlateOn_19 rfl)) dX11_isSlateOn_22 dX11_isSlateOn_23 rfl dX11_isSlateOn_26 rfl) dX11_isSlateOn_27)
noncomputable def DX11_isSlateOn : Fr → St → Option (Int32 × St) := MZ (fun f => (sI (sI (sR fr0 0 (gR f 0)) 1 (gI f 1)) 2 (gI f 2))) BX11_isSlateOn
theorem kX11_isSlateOn : SND yX11_isSlateOn cX11_isSlateOn 3 (some .boolean) 3 [(0, 2), (1, 0), (2, 0)] cvoI DX11_isSlateOn := snd_Z (nw := 3) (by decide) rfl rfl (fun _ _ => rfl) sBX11_isSlateOn
theorem dX3_slateOn_0 : decode cX3_slateOn 0 = .ok (.aload_n 0, 1) := by decide +kernel
theorem dX3_slateOn_1 : decode cX3_slateOn 1 = .ok (.getfield 22, 3) := by decide +kernel
theorem dX3_slateOn_4 : decode cX3_slateOn 4 = .ok (.iload_n 2, 1) := by decide +kernel
theorem dX3_slateOn_5 : decode cX3_slateOn 5 = .ok (.iconst 3, 1) := by decide +kernel
theorem dX3_slateOn_6 : decode cX3_slateOn 6 = .ok (.imul, 1) := by decide +kernel
theorem dX3_slateOn_7 : decode cX3_slateOn 7 = .ok (.iload_n 1, 1) := by decide +kernel
theorem dX3_slateOn_8 : decode cX3_slateOn 8 = .ok (.iadd, 1) := by decide +kernel
theorem dX3_slateOn_9 : decode cX3_slateOn 9 = .ok (.invokestatic 58, 3) := by decide +kernel
theorem dX3_slateOn_12 : decode cX3_slateOn 12 = .ok (.ireturn, 1) := by decide +kernel
theorem mokX3_slateOn : MOK yX3_slateOn cX3_slateOn 3 (some .int) 2 := ⟨w4_161, w1_7, ⟨by decide, by decide⟩, by decide +kernel, by decide⟩
abbrev miX3_slateOn : MI := (yX3_slateOn.cls, cX3_slateOn, 3, 2, false)
noncomputable def BX3_slateOn : Sm Int32 := (dRet (dCall DX11_cell (aI (aR aN 0 (dGR 3 3 (vR 0))) 1 (d2 o_iadd (d2 o_imul (vI 2) (cI 3)) (vI 1)))))
theorem sBX3_slateOn : SS (cvoI, .ireturn) miX3_slateOn [] [] [] [(0, 2), (1, 0), (2, 0)] [(0, 2), (1, 0), (2, 0)] 0 [] BX3_slateOn := (t_ret (cv := cvI) (fun _ _ => rfl) (s_of_xI (x_callN (ts := [(0, 2), (1, 0)]) kX11_cell mokX11_cell w3_229 rfl rfl rfl (a_I (ts := [(0, 2)]) 1 (a_R (ts := []) 0 a_nil (s_getR ck3 3 (by decide) rfl (s_aload_n dX3_slateOn_0 rfl rfl) dX3_slateOn_1 w2_93) rfl) (s_iadd (s_imul (s_iload_n dX3_slateOn_4 rfl rfl) (s_iconst dX3_slateOn_5 rfl) dX3_slateOn_6) (s_iload_n dX3_slateOn_7 rfl rfl) dX3_slateOn_8) rfl) dX3_slateOn_9 nb23)) dX3_slateOn_12)
noncomputable def DX3_slateOn : Fr → St → Option (Int32 × St) := M1 (fun f => (sI (sI (sR fr0 0 (gR f 0)) 1 (gI f 1)) 2 (gI f 2))) BX3_slateOn
theorem kX3_slateOn : SND yX3_slateOn cX3_slateOn 3 (some .int) 2 [(0, 2), (1, 0), (2, 0)] cvoI DX3_slateOn := snd_I (nw := 3) (by decide) rfl rfl (fun _ _ => rfl) sBX3_slateOn
theorem dX11_lies_0 : decode cX11_lies 0 = .ok (.aload_n 0, 1) := by decide +kernel
theorem dX11_lies_1 : decode cX11_lies 1 = .ok (.iload_n 1, 1) := by decide +kernel
theorem dX11_lies_2 : decode cX11_lies 2 = .ok (.iload_n 2, 1) := by decide +kernel
theorem dX11_lies_3 : decode cX11_lies 3 = .ok (.invokevirtual 174, 3) := by decide +kernel
theorem dX11_lies_6 : decode cX11_lies 6 = .ok (.ifCond .eq 15, 3) := by decide +kernel
theorem dX11_lies_9 : decode cX11_lies 9 = .ok (.aload_n 0, 1) := by decide +kernel
theorem dX11_lies_10 : decode cX11_lies 10 = .ok (.invokevirtual 167, 3) := by decide +kernel
theorem dX11_lies_13 : decode cX11_lies 13 = .ok (.iload_n 1, 1) := by decide +kernel
theorem dX11_lies_14 : decode cX11_lies 14 = .ok (.iload_n 2, 1) := by decide +kernel
theorem dX11_lies_15 : decode cX11_lies 15 = .ok (.invokevirtual 177, 3) := by decide +kernel
theorem dX11_lies_18 : decode cX11_lies 18 = .ok (.goto 5, 3) := by decide +kernel
theorem dX11_lies_21 : decode cX11_lies 21 = .ok (.bipush (-2), 2) := by decide +kernel
theorem dX11_lies_23 : decode cX11_lies 23 = .ok (.ireturn, 1) := by decide +kernel
theorem mokX11_lies : MOK yX11_lies cX11_lies 3 (some .int) 2 := ⟨w4_153, w1_1, ⟨by decide, by decide⟩, by decide +kernel, by decide⟩
abbrev miX11_lies : MI := (yX11_lies.cls, cX11_lies, 3, 8, false)
noncomputable def BX11_lies : Sm Int32 := (dRet (dT (dCZ q_ne (dCallV 11 DX11_isSlateOn (aI (aI (aR aN 0 (vR 0)) 1 (vI 1)) 2 (vI 2)))) (dCallV 3 DX3_slateOn (aI (aI (aR aN 0 (dCallV 11 DX11_today (aR aN 0 (vR 0)))) 1 (vI 1)) 2 (vI 2))) (cI (-2))))
theorem sBX11_lies : SS (cvoI, .ireturn) miX11_lies [] [] [] [(0, 2), (1, 0), (2, 0)] [(0, 2), (1, 0), (2, 0)] 0 [] BX11_lies := (t_ret (cv := cvI) (fun _ _ => rfl) (s_T (pT := 9) (pF := 21) (p1 := 18) (pe := 23) (c_ne_ZF (pF := 21) (s_of_xI (x_callV (ts := [(0, 2), (1, 0), (2, 0)]) ck11 rfl kX11_isSlateOn mokX11_isSlateOn w4_156 ps2_5 rfl rfl rfl rfl (a_I (ts := [(0, 2), (1, 0)]) 2 (a_I (ts := [(0, 2)]) 1 (a_R (ts := []) 0 a_nil (s_aload_n dX11_lies_0 rfl rfl) rfl) (s_iload_n dX11_lies_1 rfl rfl) rfl) (s_iload_n dX11_lies_2 rfl rfl) rfl) dX11_lies_3 w4_154)) dX11_lies_6 rfl) (s_of_xI (x_callV (ts := [(0, 2), (1, 0), (2, 0)]) ck3 rfl kX3_slateOn mokX3_slateOn w4_159 w4_160 rfl rfl rfl rfl (a_I (ts := [(0, 2), (1, 0)]) 2 (a_I (ts := [(0, 2)]) 1 (a_R (ts := []) 0 a_nil (s_of_xR (x_callV (ts := [(0, 2)]) ck11 rfl kX11_today mokX11_today w4_81 ps2_0 rfl rfl rfl rfl (a_R (ts := []) 0 a_nil (s_aload_n dX11_lies_9 rfl rfl) rfl) dX11_lies_10 w4_79)) rfl) (s_iload_n dX11_lies_13 rfl rfl) rfl) (s_iload_n dX11_lies_14 rfl rfl) rfl) dX11_lies_15 w4_158)) (s_bipush dX11_lies_21 rfl) (ld_goto (y := 23) dX11_lies_18 rfl (ld_in rfl))) dX11_lies_23)
noncomputable def DX11_lies : Fr → St → Option (Int32 × St) := M1 (fun f => (sI (sI (sR fr0 0 (gR f 0)) 1 (gI f 1)) 2 (gI f 2))) BX11_lies
theorem kX11_lies : SND yX11_lies cX11_lies 3 (some .int) 8 [(0, 2), (1, 0), (2, 0)] cvoI DX11_lies := snd_I (nw := 3) (by decide) rfl rfl (fun _ _ => rfl) sBX11_lies
theorem dX3_leftOn_0 : decode cX3_leftOn 0 = .ok (.aload_n 0, 1) := by decide +kernel
theorem dX3_leftOn_1 : decode cX3_leftOn 1 = .ok (.getfield 25, 3) := by decide +kernel
theorem dX3_leftOn_4 : decode cX3_leftOn 4 = .ok (.iload_n 2, 1) := by decide +kernel
theorem dX3_leftOn_5 : decode cX3_leftOn 5 = .ok (.iconst 3, 1) := by decide +kernel
theorem dX3_leftOn_6 : decode cX3_leftOn 6 = .ok (.imul, 1) := by decide +kernel
theorem dX3_leftOn_7 : decode cX3_leftOn 7 = .ok (.iload_n 1, 1) := by decide +kernel
theorem dX3_leftOn_8 : decode cX3_leftOn 8 = .ok (.iadd, 1) := by decide +kernel
theorem dX3_leftOn_9 : decode cX3_leftOn 9 = .ok (.invokestatic 58, 3) := by decide +kernel
theorem dX3_leftOn_12 : decode cX3_leftOn 12 = .ok (.ireturn, 1) := by decide +kernel
theorem mokX3_leftOn : MOK yX3_leftOn cX3_leftOn 3 (some .int) 2 := ⟨w4_169, w1_7, ⟨by decide, by decide⟩, by decide +kernel, by decide⟩
abbrev miX3_leftOn : MI := (yX3_leftOn.cls, cX3_leftOn, 3, 2, false)
noncomputable def BX3_leftOn : Sm Int32 := (dRet (dCall DX11_cell (aI (aR aN 0 (dGR 3 4 (vR 0))) 1 (d2 o_iadd (d2 o_imul (vI 2) (cI 3)) (vI 1)))))
theorem sBX3_leftOn : SS (cvoI, .ireturn) miX3_leftOn [] [] [] [(0, 2), (1, 0), (2, 0)] [(0, 2), (1, 0), (2, 0)] 0 [] BX3_leftOn := (t_ret (cv := cvI) (fun _ _ => rfl) (s_of_xI (x_callN (ts := [(0, 2), (1, 0)]) kX11_cell mokX11_cell w3_229 rfl rfl rfl (a_I (ts := [(0, 2)]) 1 (a_R (ts := []) 0 a_nil (s_getR ck3 4 (by decide) rfl (s_aload_n dX3_leftOn_0 rfl rfl) dX3_leftOn_1 w2_94) rfl) (s_iadd (s_imul (s_iload_n dX3_leftOn_4 rfl rfl) (s_iconst dX3_leftOn_5 rfl) dX3_leftOn_6) (s_iload_n dX3_leftOn_7 rfl rfl) dX3_leftOn_8) rfl) dX3_leftOn_9 nb23)) dX3_leftOn_12)
noncomputable def DX3_leftOn : Fr → St → Option (Int32 × St) := M1 (fun f => (sI (sI (sR fr0 0 (gR f 0)) 1 (gI f 1)) 2 (gI f 2))) BX3_leftOn
theorem kX3_leftOn : SND yX3_leftOn cX3_leftOn 3 (some .int) 2 [(0, 2), (1, 0), (2, 0)] cvoI DX3_leftOn := snd_I (nw := 3) (by decide) rfl rfl (fun _ _ => rfl) sBX3_leftOn
theorem dX11_left_0 : decode cX11_left 0 = .ok (.aload_n 0, 1) := by decide +kernel
theorem dX11_left_1 : decode cX11_left 1 = .ok (.iload_n 1, 1) := by decide +kernel
theorem dX11_left_2 : decode cX11_left 2 = .ok (.iload_n 2, 1) := by decide +kernel
theorem dX11_left_3 : decode cX11_left 3 = .ok (.invokevirtual 174, 3) := by decide +kernel
theorem dX11_left_6 : decode cX11_left 6 = .ok (.ifCond .eq 15, 3) := by decide +kernel
theorem dX11_left_9 : decode cX11_left 9 = .ok (.aload_n 0, 1) := by decide +kernel
theorem dX11_left_10 : decode cX11_left 10 = .ok (.invokevirtual 167, 3) := by decide +kernel
theorem dX11_left_13 : decode cX11_left 13 = .ok (.iload_n 1, 1) := by decide +kernel
theorem dX11_left_14 : decode cX11_left 14 = .ok (.iload_n 2, 1) := by decide +kernel
theorem dX11_left_15 : decode cX11_left 15 = .ok (.invokevirtual 180, 3) := by decide +kernel
theorem dX11_left_18 : decode cX11_left 18 = .ok (.goto 5, 3) := by decide +kernel
theorem dX11_left_21 : decode cX11_left 21 = .ok (.bipush (-2), 2) := by decide +kernel
theorem dX11_left_23 : decode cX11_left 23 = .ok (.ireturn, 1) := by decide +kernel
theorem mokX11_left : MOK yX11_left cX11_left 3 (some .int) 2 := ⟨w4_165, w1_1, ⟨by decide, by decide⟩, by decide +kernel, by decide⟩
abbrev miX11_left : MI := (yX11_left.cls, cX11_left, 3, 8, false)
noncomputable def BX11_left : Sm Int32 := (dRet (dT (dCZ q_ne (dCallV 11 DX11_isSlateOn (aI (aI (aR aN 0 (vR 0)) 1 (vI 1)) 2 (vI 2)))) (dCallV 3 DX3_leftOn (aI (aI (aR aN 0 (dCallV 11 DX11_today (aR aN 0 (vR 0)))) 1 (vI 1)) 2 (vI 2))) (cI (-2))))
theorem sBX11_left : SS (cvoI, .ireturn) miX11_left [] [] [] [(0, 2), (1, 0), (2, 0)] [(0, 2), (1, 0), (2, 0)] 0 [] BX11_left := (t_ret (cv := cvI) (fun _ _ => rfl) (s_T (pT := 9) (pF := 21) (p1 := 18) (pe := 23) (c_ne_ZF (pF := 21) (s_of_xI (x_callV (ts := [(0, 2), (1, 0), (2, 0)]) ck11 rfl kX11_isSlateOn mokX11_isSlateOn w4_156 ps2_5 rfl rfl rfl rfl (a_I (ts := [(0, 2), (1, 0)]) 2 (a_I (ts := [(0, 2)]) 1 (a_R (ts := []) 0 a_nil (s_aload_n dX11_left_0 rfl rfl) rfl) (s_iload_n dX11_left_1 rfl rfl) rfl) (s_iload_n dX11_left_2 rfl rfl) rfl) dX11_left_3 w4_154)) dX11_left_6 rfl) (s_of_xI (x_callV (ts := [(0, 2), (1, 0), (2, 0)]) ck3 rfl kX3_leftOn mokX3_leftOn w4_167 w4_168 rfl rfl rfl rfl (a_I (ts := [(0, 2), (1, 0)]) 2 (a_I (ts := [(0, 2)]) 1 (a_R (ts := []) 0 a_nil (s_of_xR (x_callV (ts := [(0, 2)]) ck11 rfl kX11_today mokX11_today w4_81 ps2_0 rfl rfl rfl rfl (a_R (ts := []) 0 a_nil (s_aload_n dX11_left_9 rfl rfl) rfl) dX11_left_10 w4_79)) rfl) (s_iload_n dX11_left_13 rfl rfl) rfl) (s_iload_n dX11_left_14 rfl rfl) rfl) dX11_left_15 w4_166)) (s_bipush dX11_left_21 rfl) (ld_goto (y := 23) dX11_left_18 rfl (ld_in rfl))) dX11_left_23)
noncomputable def DX11_left : Fr → St → Option (Int32 × St) := M1 (fun f => (sI (sI (sR fr0 0 (gR f 0)) 1 (gI f 1)) 2 (gI f 2))) BX11_left
theorem kX11_left : SND yX11_left cX11_left 3 (some .int) 8 [(0, 2), (1, 0), (2, 0)] cvoI DX11_left := snd_I (nw := 3) (by decide) rfl rfl (fun _ _ => rfl) sBX11_left
theorem dX11_weight_0 : decode cX11_weight 0 = .ok (.aload_n 0, 1) := by decide +kernel
theorem dX11_weight_1 : decode cX11_weight 1 = .ok (.iload_n 1, 1) := by decide +kernel
theorem dX11_weight_2 : decode cX11_weight 2 = .ok (.iload_n 2, 1) := by decide +kernel
theorem dX11_weight_3 : decode cX11_weight 3 = .ok (.invokevirtual 174, 3) := by decide +kernel
theorem dX11_weight_6 : decode cX11_weight 6 = .ok (.ifCond .eq 23, 3) := by decide +kernel
theorem dX11_weight_9 : decode cX11_weight 9 = .ok (.aload_n 0, 1) := by decide +kernel
theorem dX11_weight_10 : decode cX11_weight 10 = .ok (.getfield 26, 3) := by decide +kernel
theorem dX11_weight_13 : decode cX11_weight 13 = .ok (.iload_n 1, 1) := by decide +kernel
theorem dX11_weight_14 : decode cX11_weight 14 = .ok (.aload_n 0, 1) := by decide +kernel
theorem dX11_weight_15 : decode cX11_weight 15 = .ok (.invokevirtual 167, 3) := by decide +kernel
theorem dX11_weight_18 : decode cX11_weight 18 = .ok (.iload_n 1, 1) := by decide +kernel
theorem dX11_weight_19 : decode cX11_weight 19 = .ok (.iload_n 2, 1) := by decide +kernel
theorem dX11_weight_20 : decode cX11_weight 20 = .ok (.invokevirtual 180, 3) := by decide +kernel
theorem dX11_weight_23 : decode cX11_weight 23 = .ok (.invokevirtual 183, 3) := by decide +kernel
theorem dX11_weight_26 : decode cX11_weight 26 = .ok (.goto 5, 3) := by decide +kernel
theorem dX11_weight_29 : decode cX11_weight 29 = .ok (.bipush (-2), 2) := by decide +kernel
theorem dX11_weight_31 : decode cX11_weight 31 = .ok (.ireturn, 1) := by decide +kernel
theorem mokX11_weight : MOK yX11_weight cX11_weight 3 (some .int) 2 := ⟨w4_173, w1_1, ⟨by decide, by decide⟩, by decide +kernel, by decide⟩
abbrev miX11_weight : MI := (yX11_weight.cls, cX11_weight, 3, 8, false)
noncomputable def BX11_weight : Sm Int32 := (dRet (dT (dCZ q_ne (dCallV 11 DX11_isSlateOn (aI (aI (aR aN 0 (vR 0)) 1 (vI 1)) 2 (vI 2)))) (dCallV 5 DX5_weightOf (aI (aI (aR aN 0 (dGR 11 2 (vR 0))) 1 (vI 1)) 2 (dCallV 3 DX3_leftOn (aI (aI (aR aN 0 (dCallV 11 DX11_today (aR aN 0 (vR 0)))) 1 (vI 1)) 2 (vI 2))))) (cI (-2))))
theorem sBX11_weight : SS (cvoI, .ireturn) miX11_weight [] [] [] [(0, 2), (1, 0), (2, 0)] [(0, 2), (1, 0), (2, 0)] 0 [] BX11_weight := (t_ret (cv := cvI) (fun _ _ => rfl) (s_T (pT := 9) (pF := 29) (p1 := 26) (pe := 31) (c_ne_ZF (pF := 29) (s_of_xI (x_callV (ts := [(0, 2), (1, 0), (2, 0)]) ck11 rfl kX11_isSlateOn mokX11_isSlateOn w4_156 ps2_5 rfl rfl rfl rfl (a_I (ts := [(0, 2), (1, 0)]) 2 (a_I (ts := [(0, 2)]) 1 (a_R (ts := []) 0 a_nil (s_aload_n dX11_weight_0 rfl rfl) rfl) (s_iload_n dX11_weight_1 rfl rfl) rfl) (s_iload_n dX11_weight_2 rfl rfl) rfl) dX11_weight_3 w4_154)) dX11_weight_6 rfl) (s_of_xI (x_callV (ts := [(0, 2), (1, 0), (2, 0)]) ck5 rfl kX5_weightOf mokX5_weightOf w4_131 w4_132 rfl rfl rfl rfl (a_I (ts := [(0, 2), (1, 0)]) 2 (a_I (ts := [(0, 2)]) 1 (a_R (ts := []) 0 a_nil (s_getR ck11 2 (by decide) rfl (s_aload_n dX11_weight_9 rfl rfl) dX11_weight_10 w2_220) rfl) (s_iload_n dX11_weight_13 rfl rfl) rfl) (s_of_xI (x_callV (ts := [(0, 2), (1, 0), (2, 0)]) ck3 rfl kX3_leftOn mokX3_leftOn w4_167 w4_168 rfl rfl rfl rfl (a_I (ts := [(0, 2), (1, 0)]) 2 (a_I (ts := [(0, 2)]) 1 (a_R (ts := []) 0 a_nil (s_of_xR (x_callV (ts := [(0, 2)]) ck11 rfl kX11_today mokX11_today w4_81 ps2_0 rfl rfl rfl rfl (a_R (ts := []) 0 a_nil (s_aload_n dX11_weight_14 rfl rfl) rfl) dX11_weight_15 w4_79)) rfl) (s_iload_n dX11_weight_18 rfl rfl) rfl) (s_iload_n dX11_weight_19 rfl rfl) rfl) dX11_weight_20 w4_166)) rfl) dX11_weight_23 w4_174)) (s_bipush dX11_weight_29 rfl) (ld_goto (y := 31) dX11_weight_26 rfl (ld_in rfl))) dX11_weight_31)
noncomputable def DX11_weight : Fr → St → Option (Int32 × St) := M1 (fun f => (sI (sI (sR fr0 0 (gR f 0)) 1 (gI f 1)) 2 (gI f 2))) BX11_weight
theorem kX11_weight : SND yX11_weight cX11_weight 3 (some .int) 8 [(0, 2), (1, 0), (2, 0)] cvoI DX11_weight := snd_I (nw := 3) (by decide) rfl rfl (fun _ _ => rfl) sBX11_weight
theorem dX3_knownOn_0 : decode cX3_knownOn 0 = .ok (.aload_n 0, 1) := by decide +kernel
theorem dX3_knownOn_1 : decode cX3_knownOn 1 = .ok (.getfield 28, 3) := by decide +kernel
theorem dX3_knownOn_4 : decode cX3_knownOn 4 = .ok (.iload_n 3, 1) := by decide +kernel
theorem dX3_knownOn_5 : decode cX3_knownOn 5 = .ok (.iconst 3, 1) := by decide +kernel
theorem dX3_knownOn_6 : decode cX3_knownOn 6 = .ok (.imul, 1) := by decide +kernel
theorem dX3_knownOn_7 : decode cX3_knownOn 7 = .ok (.iload_n 2, 1) := by decide +kernel
theorem dX3_knownOn_8 : decode cX3_knownOn 8 = .ok (.iadd, 1) := by decide +kernel
theorem dX3_knownOn_9 : decode cX3_knownOn 9 = .ok (.bipush 8, 2) := by decide +kernel
theorem dX3_knownOn_11 : decode cX3_knownOn 11 = .ok (.imul, 1) := by decide +kernel
theorem dX3_knownOn_12 : decode cX3_knownOn 12 = .ok (.iload_n 1, 1) := by decide +kernel
theorem dX3_knownOn_13 : decode cX3_knownOn 13 = .ok (.iadd, 1) := by decide +kernel
theorem dX3_knownOn_14 : decode cX3_knownOn 14 = .ok (.invokestatic 58, 3) := by decide +kernel
theorem dX3_knownOn_17 : decode cX3_knownOn 17 = .ok (.ireturn, 1) := by decide +kernel
theorem mokX3_knownOn : MOK yX3_knownOn cX3_knownOn 4 (some .int) 3 := ⟨w4_182, w1_7, ⟨by decide, by decide⟩, by decide +kernel, by decide⟩
abbrev miX3_knownOn : MI := (yX3_knownOn.cls, cX3_knownOn, 4, 2, false)
noncomputable def BX3_knownOn : Sm Int32 := (dRet (dCall DX11_cell (aI (aR aN 0 (dGR 3 5 (vR 0))) 1 (d2 o_iadd (d2 o_imul (d2 o_iadd (d2 o_imul (vI 3) (cI 3)) (vI 2)) (cI 8)) (vI 1)))))
theorem sBX3_knownOn : SS (cvoI, .ireturn) miX3_knownOn [] [] [] [(0, 2), (1, 0), (2, 0), (3, 0)] [(0, 2), (1, 0), (2, 0), (3, 0)] 0 [] BX3_knownOn := (t_ret (cv := cvI) (fun _ _ => rfl) (s_of_xI (x_callN (ts := [(0, 2), (1, 0)]) kX11_cell mokX11_cell w3_229 rfl rfl rfl (a_I (ts := [(0, 2)]) 1 (a_R (ts := []) 0 a_nil (s_getR ck3 5 (by decide) rfl (s_aload_n dX3_knownOn_0 rfl rfl) dX3_knownOn_1 w2_95) rfl) (s_iadd (s_imul (s_iadd (s_imul (s_iload_n dX3_knownOn_4 rfl rfl) (s_iconst dX3_knownOn_5 rfl) dX3_knownOn_6) (s_iload_n dX3_knownOn_7 rfl rfl) dX3_knownOn_8) (s_bipush dX3_knownOn_9 rfl) dX3_knownOn_11) (s_iload_n dX3_knownOn_12 rfl rfl) dX3_knownOn_13) rfl) dX3_knownOn_14 nb23)) dX3_knownOn_17)
noncomputable def DX3_knownOn : Fr → St → Option (Int32 × St) := M1 (fun f => (sI (sI (sI (sR fr0 0 (gR f 0)) 1 (gI f 1)) 2 (gI f 2)) 3 (gI f 3))) BX3_knownOn
theorem kX3_knownOn : SND yX3_knownOn cX3_knownOn 4 (some .int) 2 [(0, 2), (1, 0), (2, 0), (3, 0)] cvoI DX3_knownOn := snd_I (nw := 4) (by decide) rfl rfl (fun _ _ => rfl) sBX3_knownOn
theorem dX11_knows_0 : decode cX11_knows 0 = .ok (.aload_n 0, 1) := by decide +kernel
theorem dX11_knows_1 : decode cX11_knows 1 = .ok (.getfield 26, 3) := by decide +kernel
theorem dX11_knows_4 : decode cX11_knows 4 = .ok (.iload_n 1, 1) := by decide +kernel
theorem dX11_knows_5 : decode cX11_knows 5 = .ok (.invokevirtual 117, 3) := by decide +kernel
theorem dX11_knows_8 : decode cX11_knows 8 = .ok (.ifCond .eq 12, 3) := by decide +kernel
theorem dX11_knows_11 : decode cX11_knows 11 = .ok (.aload_n 0, 1) := by decide +kernel
theorem dX11_knows_12 : decode cX11_knows 12 = .ok (.iload_n 2, 1) := by decide +kernel
theorem dX11_knows_13 : decode cX11_knows 13 = .ok (.iload_n 3, 1) := by decide +kernel
theorem dX11_knows_14 : decode cX11_knows 14 = .ok (.invokevirtual 174, 3) := by decide +kernel
theorem dX11_knows_17 : decode cX11_knows 17 = .ok (.ifCond .ne 6, 3) := by decide +kernel
theorem dX11_knows_20 : decode cX11_knows 20 = .ok (.bipush (-2), 2) := by decide +kernel
theorem dX11_knows_22 : decode cX11_knows 22 = .ok (.ireturn, 1) := by decide +kernel
theorem dX11_knows_23 : decode cX11_knows 23 = .ok (.aload_n 0, 1) := by decide +kernel
theorem dX11_knows_24 : decode cX11_knows 24 = .ok (.invokevirtual 167, 3) := by decide +kernel
theorem dX11_knows_27 : decode cX11_knows 27 = .ok (.iload_n 1, 1) := by decide +kernel
theorem dX11_knows_28 : decode cX11_knows 28 = .ok (.iload_n 2, 1) := by decide +kernel
theorem dX11_knows_29 : decode cX11_knows 29 = .ok (.iload_n 3, 1) := by decide +kernel
theorem dX11_knows_30 : decode cX11_knows 30 = .ok (.invokevirtual 186, 3) := by decide +kernel
theorem dX11_knows_33 : decode cX11_knows 33 = .ok (.ireturn, 1) := by decide +kernel
theorem mokX11_knows : MOK yX11_knows cX11_knows 4 (some .int) 3 := ⟨w4_178, w1_1, ⟨by decide, by decide⟩, by decide +kernel, by decide⟩
abbrev miX11_knows : MI := (yX11_knows.cls, cX11_knows, 4, 8, false)
noncomputable def BX11_knows : Sm Int32 := (dSeq (dIf (dOr (dNot (dCZ q_ne (dCallV 5 DX5_isHouse (aI (aR aN 0 (dGR 11 2 (vR 0))) 1 (vI 1))))) (dNot (dCZ q_ne (dCallV 11 DX11_isSlateOn (aI (aI (aR aN 0 (vR 0)) 1 (vI 2)) 2 (vI 3)))))) (dRet (cI (-2))) dSkip) (dRet (dCallV 3 DX3_knownOn (aI (aI (aI (aR aN 0 (dCallV 11 DX11_today (aR aN 0 (vR 0)))) 1 (vI 1)) 2 (vI 2)) 3 (vI 3)))))
theorem sBX11_knows : SS (cvoI, .ireturn) miX11_knows [] [] [] [(0, 2), (1, 0), (2, 0), (3, 0)] [(0, 2), (1, 0), (2, 0), (3, 0)] 0 [] BX11_knows := (t_sq (p1 := 23) (Γ' := [(0, 2), (1, 0), (2, 0), (3, 0)]) (t_if (pT := 20) (pF := 23) (X := [23]) (XA := []) (XB := [23]) (c_or (p1 := 11) (pT := 20) (pF := 23) (c_not (pT := 20) (pF := 11) (c_ne_ZF (pF := 20) (s_of_xI (x_callV (ts := [(0, 2), (1, 0)]) ck5 rfl kX5_isHouse mokX5_isHouse w3_225 w3_226 rfl rfl rfl rfl (a_I (ts := [(0, 2)]) 1 (a_R (ts := []) 0 a_nil (s_getR ck11 2 (by decide) rfl (s_aload_n dX11_knows_0 rfl rfl) dX11_knows_1 w2_220) rfl) (s_iload_n dX11_knows_4 rfl rfl) rfl) dX11_knows_5 w3_224)) dX11_knows_8 rfl)) (c_not (pT := 20) (pF := 23) (c_ne_ZJ (pT := 23) (s_of_xI (x_callV (ts := [(0, 2), (1, 0), (2, 0)]) ck11 rfl kX11_isSlateOn mokX11_isSlateOn w4_156 ps2_5 rfl rfl rfl rfl (a_I (ts := [(0, 2), (1, 0)]) 2 (a_I (ts := [(0, 2)]) 1 (a_R (ts := []) 0 a_nil (s_aload_n dX11_knows_11 rfl rfl) rfl) (s_iload_n dX11_knows_12 rfl rfl) rfl) (s_iload_n dX11_knows_13 rfl rfl) rfl) dX11_knows_14 w4_154)) dX11_knows_17 rfl))) (t_ret (cv := cvI) (fun _ _ => rfl) (s_bipush dX11_knows_20 rfl) dX11_knows_22) (t_skip (ld_in rfl) rfl) lda_nil (lda_cons (ld_in rfl) lda_nil)) (t_ret (cv := cvI) (fun _ _ => rfl) (s_of_xI (x_callV (ts := [(0, 2), (1, 0), (2, 0), (3, 0)]) ck3 rfl kX3_knownOn mokX3_knownOn w4_180 w4_181 rfl rfl rfl rfl (a_I (ts := [(0, 2), (1, 0), (2, 0)]) 3 (a_I (ts := [(0, 2), (1, 0)]) 2 (a_I (ts := [(0, 2)]) 1 (a_R (ts := []) 0 a_nil (s_of_xR (x_callV (ts := [(0, 2)]) ck11 rfl kX11_today mokX11_today w4_81 ps2_0 rfl rfl rfl rfl (a_R (ts := []) 0 a_nil (s_aload_n dX11_knows_23 rfl rfl) rfl) dX11_knows_24 w4_79)) rfl) (s_iload_n dX11_knows_27 rfl rfl) rfl) (s_iload_n dX11_knows_28 rfl rfl) rfl) (s_iload_n dX11_knows_29 rfl rfl) rfl) dX11_knows_30 w4_179)) dX11_knows_33))
noncomputable def DX11_knows : Fr → St → Option (Int32 × St) := M1 (fun f => (sI (sI (sI (sR fr0 0 (gR f 0)) 1 (gI f 1)) 2 (gI f 2)) 3 (gI f 3))) BX11_knows
theorem kX11_knows : SND yX11_knows cX11_knows 4 (some .int) 8 [(0, 2), (1, 0), (2, 0), (3, 0)] cvoI DX11_knows := snd_I (nw := 4) (by decide) rfl rfl (fun _ _ => rfl) sBX11_knows
theorem dX3_hearersOn_0 : decode cX3_hearersOn 0 = .ok (.iconst 0, 1) := by decide +kernel
theorem dX3_hearersOn_1 : decode cX3_hearersOn 1 = .ok (.istore 4, 2) := by decide +kernel
theorem dX3_hearersOn_3 : decode cX3_hearersOn 3 = .ok (.iconst 0, 1) := by decide +kernel
theorem dX3_hearersOn_4 : decode cX3_hearersOn 4 = .ok (.istore 5, 2) := by decide +kernel
theorem dX3_hearersOn_6 : decode cX3_hearersOn 6 = .ok (.iload 5, 2) := by decide +kernel
theorem dX3_hearersOn_8 : decode cX3_hearersOn 8 = .ok (.aload_n 1, 1) := by decide +kernel
theorem dX3_hearersOn_9 : decode cX3_hearersOn 9 = .ok (.getfield 62, 3) := by decide +kernel
theorem dX3_hearersOn_12 : decode cX3_hearersOn 12 = .ok (.if_icmp .ge 29, 3) := by decide +kernel
theorem dX3_hearersOn_15 : decode cX3_hearersOn 15 = .ok (.aload_n 0, 1) := by decide +kernel
theorem dX3_hearersOn_16 : decode cX3_hearersOn 16 = .ok (.iload 5, 2) := by decide +kernel
theorem dX3_hearersOn_18 : decode cX3_hearersOn 18 = .ok (.iload_n 2, 1) := by decide +kernel
theorem dX3_hearersOn_19 : decode cX3_hearersOn 19 = .ok (.iload_n 3, 1) := by decide +kernel
theorem dX3_hearersOn_20 : decode cX3_hearersOn 20 = .ok (.invokevirtual 65, 3) := by decide +kernel
theorem dX3_hearersOn_23 : decode cX3_hearersOn 23 = .ok (.ifCond .eq 12, 3) := by decide +kernel
theorem dX3_hearersOn_26 : decode cX3_hearersOn 26 = .ok (.iload 4, 2) := by decide +kernel
theorem dX3_hearersOn_28 : decode cX3_hearersOn 28 = .ok (.iconst 1, 1) := by decide +kernel
theorem dX3_hearersOn_29 : decode cX3_hearersOn 29 = .ok (.iload 5, 2) := by decide +kernel
theorem dX3_hearersOn_31 : decode cX3_hearersOn 31 = .ok (.ishl, 1) := by decide +kernel
theorem dX3_hearersOn_32 : decode cX3_hearersOn 32 = .ok (.ior, 1) := by decide +kernel
theorem dX3_hearersOn_33 : decode cX3_hearersOn 33 = .ok (.istore 4, 2) := by decide +kernel
theorem dX3_hearersOn_35 : decode cX3_hearersOn 35 = .ok (.iinc 5 1, 3) := by decide +kernel
theorem dX3_hearersOn_38 : decode cX3_hearersOn 38 = .ok (.goto (-32), 3) := by decide +kernel
theorem dX3_hearersOn_41 : decode cX3_hearersOn 41 = .ok (.iload 4, 2) := by decide +kernel
theorem dX3_hearersOn_43 : decode cX3_hearersOn 43 = .ok (.ireturn, 1) := by decide +kernel
theorem mokX3_hearersOn : MOK yX3_hearersOn cX3_hearersOn 6 (some .int) 3 := ⟨w4_190, w1_7, ⟨by decide, by decide⟩, by decide +kernel, by decide⟩
abbrev miX3_hearersOn : MI := (yX3_hearersOn.cls, cX3_hearersOn, 6, 3, false)
noncomputable def LX3_hearersOn_1 : Sm Int32 := dLoop (fun f => (sI (sI (sI (sI (sR (sR fr0 0 (gR f 0)) 1 (gR f 1)) 2 (gI f 2)) 3 (gI f 3)) 4 (gI f 4)) 5 (gI f 5))) (dCI r_lt (vI 5) (dGI 5 4 (vR 1))) (dIf (dCZ q_ne (dCallV 3 DX3_knownOn (aI (aI (aI (aR aN 0 (vR 0)) 1 (vI 5)) 2 (vI 2)) 3 (vI 3)))) (dSetI 4 (d2 o_ior (vI 4) (d2 o_ishl (cI 1) (vI 5)))) dSkip) (dInc 5 1)
theorem sLX3_hearersOn_1 {ΓL : Gm} {PB PK : List Nat} : SS (cvoI, .ireturn) miX3_hearersOn ΓL PB PK [(0, 2), (1, 2), (2, 0), (3, 0), (4, 0), (5, 0)] [(0, 2), (1, 2), (2, 0), (3, 0), (4, 0), (5, 0)] 6 [41] LX3_hearersOn_1 := t_loop (pT := 15) (pF := 41) (pu := 35) (PB' := []) (PK' := []) (XB := [35]) (XU := [38]) (fun _ _ => rfl) rfl (c_lt_F (pF := 41) (s_iload dX3_hearersOn_6 rfl) (s_getI ck5 4 (by decide) rfl (s_aload_n dX3_hearersOn_8 rfl rfl) dX3_hearersOn_9 w1_154) dX3_hearersOn_12 rfl) (t_if (pT := 26) (pF := 35) (X := [35]) (XA := [35]) (XB := [35]) (c_ne_ZF (pF := 35) (s_of_xI (x_callV (ts := [(0, 2), (1, 0), (2, 0), (3, 0)]) ck3 rfl kX3_knownOn mokX3_knownOn w4_180 w4_181 rfl rfl rfl rfl (a_I (ts := [(0, 2), (1, 0), (2, 0)]) 3 (a_I (ts := [(0, 2), (1, 0)]) 2 (a_I (ts := [(0, 2)]) 1 (a_R (ts := []) 0 a_nil (s_aload_n dX3_hearersOn_15 rfl rfl) rfl) (s_iload dX3_hearersOn_16 rfl) rfl) (s_iload_n dX3_hearersOn_18 rfl rfl) rfl) (s_iload_n dX3_hearersOn_19 rfl rfl) rfl) dX3_hearersOn_20 w4_191)) dX3_hearersOn_23 rfl) (t_istore (s_ior (s_iload dX3_hearersOn_26 rfl) (s_ishl (s_iconst dX3_hearersOn_28 rfl) (s_iload dX3_hearersOn_29 rfl) dX3_hearersOn_31) dX3_hearersOn_32) dX3_hearersOn_33 rfl rfl) (t_skip (ld_in rfl) rfl) (lda_cons (ld_in rfl) lda_nil) (lda_cons (ld_in rfl) lda_nil)) (t_iinc dX3_hearersOn_35 rfl rfl rfl rfl) (lda_cons (ld_in rfl) lda_nil) lda_nil (lda_cons (ld_goto (y := 6) dX3_hearersOn_38 rfl (ld_in rfl)) lda_nil) (ld_in rfl) lda_nil
noncomputable def BX3_hearersOn : Sm Int32 := (dSeq (dSetI 4 (cI 0)) (dSeq (dSeq (dSetI 5 (cI 0)) LX3_hearersOn_1) (dRet (vI 4))))
theorem sBX3_hearersOn : SS (cvoI, .ireturn) miX3_hearersOn [] [] [] [(0, 2), (1, 2), (2, 0), (3, 0)] [(0, 2), (1, 2), (2, 0), (3, 0)] 0 [] BX3_hearersOn := (t_sq (p1 := 3) (Γ' := [(0, 2), (1, 2), (2, 0), (3, 0), (4, 0)]) (t_istore (s_iconst dX3_hearersOn_0 rfl) dX3_hearersOn_1 rfl rfl) (t_sq (p1 := 41) (Γ' := [(0, 2), (1, 2), (2, 0), (3, 0), (4, 0)]) (t_sq (p1 := 6) (Γ' := [(0, 2), (1, 2), (2, 0), (3, 0), (4, 0), (5, 0)]) (t_istore (s_iconst dX3_hearersOn_3 rfl) dX3_hearersOn_4 rfl rfl) (tn_to (Γ' := [(0, 2), (1, 2), (2, 0), (3, 0), (4, 0), (5, 0)]) (XA := [41]) sLX3_hearersOn_1 (lda_cons (ld_in rfl) lda_nil) rfl)) (t_ret (cv := cvI) (fun _ _ => rfl) (s_iload dX3_hearersOn_41 rfl) dX3_hearersOn_43)))
noncomputable def DX3_hearersOn : Fr → St → Option (Int32 × St) := M1 (fun f => (sI (sI (sR (sR fr0 0 (gR f 0)) 1 (gR f 1)) 2 (gI f 2)) 3 (gI f 3))) BX3_hearersOn
theorem kX3_hearersOn : SND yX3_hearersOn cX3_hearersOn 6 (some .int) 3 [(0, 2), (1, 2), (2, 0), (3, 0)] cvoI DX3_hearersOn := snd_I (nw := 4) (by decide) rfl rfl (fun _ _ => rfl) sBX3_hearersOn
theorem dX11_heard_0 : decode cX11_heard 0 = .ok (.aload_n 0, 1) := by decide +kernel
theorem dX11_heard_1 : decode cX11_heard 1 = .ok (.iload_n 1, 1) := by decide +kernel
theorem dX11_heard_2 : decode cX11_heard 2 = .ok (.iload_n 2, 1) := by decide +kernel
theorem dX11_heard_3 : decode cX11_heard 3 = .ok (.invokevirtual 174, 3) := by decide +kernel
theorem dX11_heard_6 : decode cX11_heard 6 = .ok (.ifCond .eq 19, 3) := by decide +kernel
theorem dX11_heard_9 : decode cX11_heard 9 = .ok (.aload_n 0, 1) := by decide +kernel
theorem dX11_heard_10 : decode cX11_heard 10 = .ok (.invokevirtual 167, 3) := by decide +kernel
theorem dX11_heard_13 : decode cX11_heard 13 = .ok (.aload_n 0, 1) := by decide +kernel
theorem dX11_heard_14 : decode cX11_heard 14 = .ok (.getfield 26, 3) := by decide +kernel
theorem dX11_heard_17 : decode cX11_heard 17 = .ok (.iload_n 1, 1) := by decide +kernel
theorem dX11_heard_18 : decode cX11_heard 18 = .ok (.iload_n 2, 1) := by decide +kernel
theorem dX11_heard_19 : decode cX11_heard 19 = .ok (.invokevirtual 190, 3) := by decide +kernel
theorem dX11_heard_22 : decode cX11_heard 22 = .ok (.goto 5, 3) := by decide +kernel
theorem dX11_heard_25 : decode cX11_heard 25 = .ok (.bipush (-2), 2) := by decide +kernel
theorem dX11_heard_27 : decode cX11_heard 27 = .ok (.ireturn, 1) := by decide +kernel
theorem mokX11_heard : MOK yX11_heard cX11_heard 3 (some .int) 2 := ⟨w4_186, w1_1, ⟨by decide, by decide⟩, by decide +kernel, by decide⟩
abbrev miX11_heard : MI := (yX11_heard.cls, cX11_heard, 3, 8, false)
noncomputable def BX11_heard : Sm Int32 := (dRet (dT (dCZ q_ne (dCallV 11 DX11_isSlateOn (aI (aI (aR aN 0 (vR 0)) 1 (vI 1)) 2 (vI 2)))) (dCallV 3 DX3_hearersOn (aI (aI (aR (aR aN 0 (dCallV 11 DX11_today (aR aN 0 (vR 0)))) 1 (dGR 11 2 (vR 0))) 2 (vI 1)) 3 (vI 2))) (cI (-2))))
theorem sBX11_heard : SS (cvoI, .ireturn) miX11_heard [] [] [] [(0, 2), (1, 0), (2, 0)] [(0, 2), (1, 0), (2, 0)] 0 [] BX11_heard := (t_ret (cv := cvI) (fun _ _ => rfl) (s_T (pT := 9) (pF := 25) (p1 := 22) (pe := 27) (c_ne_ZF (pF := 25) (s_of_xI (x_callV (ts := [(0, 2), (1, 0), (2, 0)]) ck11 rfl kX11_isSlateOn mokX11_isSlateOn w4_156 ps2_5 rfl rfl rfl rfl (a_I (ts := [(0, 2), (1, 0)]) 2 (a_I (ts := [(0, 2)]) 1 (a_R (ts := []) 0 a_nil (s_aload_n dX11_heard_0 rfl rfl) rfl) (s_iload_n dX11_heard_1 rfl rfl) rfl) (s_iload_n dX11_heard_2 rfl rfl) rfl) dX11_heard_3 w4_154)) dX11_heard_6 rfl) (s_of_xI (x_callV (ts := [(0, 2), (1, 2), (2, 0), (3, 0)]) ck3 rfl kX3_hearersOn mokX3_hearersOn w4_188 w4_189 rfl rfl rfl rfl (a_I (ts := [(0, 2), (1, 2), (2, 0)]) 3 (a_I (ts := [(0, 2), (1, 2)]) 2 (a_R (ts := [(0, 2)]) 1 (a_R (ts := []) 0 a_nil (s_of_xR (x_callV (ts := [(0, 2)]) ck11 rfl kX11_today mokX11_today w4_81 ps2_0 rfl rfl rfl rfl (a_R (ts := []) 0 a_nil (s_aload_n dX11_heard_9 rfl rfl) rfl) dX11_heard_10 w4_79)) rfl) (s_getR ck11 2 (by decide) rfl (s_aload_n dX11_heard_13 rfl rfl) dX11_heard_14 w2_220) rfl) (s_iload_n dX11_heard_17 rfl rfl) rfl) (s_iload_n dX11_heard_18 rfl rfl) rfl) dX11_heard_19 w4_187)) (s_bipush dX11_heard_25 rfl) (ld_goto (y := 27) dX11_heard_22 rfl (ld_in rfl))) dX11_heard_27)
noncomputable def DX11_heard : Fr → St → Option (Int32 × St) := M1 (fun f => (sI (sI (sR fr0 0 (gR f 0)) 1 (gI f 1)) 2 (gI f 2))) BX11_heard
theorem kX11_heard : SND yX11_heard cX11_heard 3 (some .int) 8 [(0, 2), (1, 0), (2, 0)] cvoI DX11_heard := snd_I (nw := 3) (by decide) rfl rfl (fun _ _ => rfl) sBX11_heard
theorem dX11_full_0 : decode cX11_full 0 = .ok (.aload_n 0, 1) := by decide +kernel
theorem dX11_full_1 : decode cX11_full 1 = .ok (.iload_n 1, 1) := by decide +kernel
theorem dX11_full_2 : decode cX11_full 2 = .ok (.iload_n 2, 1) := by decide +kernel
theorem dX11_full_3 : decode cX11_full 3 = .ok (.invokevirtual 174, 3) := by decide +kernel
theorem dX11_full_6 : decode cX11_full 6 = .ok (.ifCond .ne 6, 3) := by decide +kernel
theorem dX11_full_9 : decode cX11_full 9 = .ok (.bipush (-2), 2) := by decide +kernel
theorem dX11_full_11 : decode cX11_full 11 = .ok (.ireturn, 1) := by decide +kernel
theorem dX11_full_12 : decode cX11_full 12 = .ok (.iconst 0, 1) := by decide +kernel
theorem dX11_full_13 : decode cX11_full 13 = .ok (.istore_n 3, 1) := by decide +kernel
theorem dX11_full_14 : decode cX11_full 14 = .ok (.iconst 0, 1) := by decide +kernel
theorem dX11_full_15 : decode cX11_full 15 = .ok (.istore 4, 2) := by decide +kernel
theorem dX11_full_17 : decode cX11_full 17 = .ok (.iload 4, 2) := by decide +kernel
theorem dX11_full_19 : decode cX11_full 19 = .ok (.aload_n 0, 1) := by decide +kernel
theorem dX11_full_20 : decode cX11_full 20 = .ok (.getfield 26, 3) := by decide +kernel
theorem dX11_full_23 : decode cX11_full 23 = .ok (.getfield 193, 3) := by decide +kernel
theorem dX11_full_26 : decode cX11_full 26 = .ok (.if_icmp .ge 38, 3) := by decide +kernel
theorem dX11_full_29 : decode cX11_full 29 = .ok (.aload_n 0, 1) := by decide +kernel
theorem dX11_full_30 : decode cX11_full 30 = .ok (.invokevirtual 167, 3) := by decide +kernel
theorem dX11_full_33 : decode cX11_full 33 = .ok (.iload 4, 2) := by decide +kernel
theorem dX11_full_35 : decode cX11_full 35 = .ok (.iload_n 1, 1) := by decide +kernel
theorem dX11_full_36 : decode cX11_full 36 = .ok (.iload_n 2, 1) := by decide +kernel
theorem dX11_full_37 : decode cX11_full 37 = .ok (.invokevirtual 186, 3) := by decide +kernel
theorem dX11_full_40 : decode cX11_full 40 = .ok (.aload_n 0, 1) := by decide +kernel
theorem dX11_full_41 : decode cX11_full 41 = .ok (.getfield 26, 3) := by decide +kernel
theorem dX11_full_44 : decode cX11_full 44 = .ok (.iload_n 1, 1) := by decide +kernel
theorem dX11_full_45 : decode cX11_full 45 = .ok (.invokevirtual 196, 3) := by decide +kernel
theorem dX11_full_48 : decode cX11_full 48 = .ok (.if_icmp .ne 10, 3) := by decide +kernel
theorem dX11_full_51 : decode cX11_full 51 = .ok (.iload_n 3, 1) := by decide +kernel
theorem dX11_full_52 : decode cX11_full 52 = .ok (.iconst 1, 1) := by decide +kernel
theorem dX11_full_53 : decode cX11_full 53 = .ok (.iload 4, 2) := by decide +kernel
theorem dX11_full_55 : decode cX11_full 55 = .ok (.ishl, 1) := by decide +kernel
theorem dX11_full_56 : decode cX11_full 56 = .ok (.ior, 1) := by decide +kernel
theorem dX11_full_57 : decode cX11_full 57 = .ok (.istore_n 3, 1) := by decide +kernel
theorem dX11_full_58 : decode cX11_full 58 = .ok (.iinc 4 1, 3) := by decide +kernel
theorem dX11_full_61 : decode cX11_full 61 = .ok (.goto (-44), 3) := by decide +kernel
theorem dX11_full_64 : decode cX11_full 64 = .ok (.iload_n 3, 1) := by decide +kernel
theorem dX11_full_65 : decode cX11_full 65 = .ok (.ireturn, 1) := by decide +kernel
theorem mokX11_full : MOK yX11_full cX11_full 5 (some .int) 2 := ⟨w4_195, w1_1, ⟨by decide, by decide⟩, by decide +kernel, by decide⟩
abbrev miX11_full : MI := (yX11_full.cls, cX11_full, 5, 8, false)
noncomputable def LX11_full_1 : Sm Int32 := dLoop (fun f => (sI (sI (sI (sI (sR fr0 0 (gR f 0)) 1 (gI f 1)) 2 (gI f 2)) 3 (gI f 3)) 4 (gI f 4))) (dCI r_lt (vI 4) (dGI 5 4 (dGR 11 2 (vR 0)))) (dIf (dCI r_eq (dCallV 3 DX3_knownOn (aI (aI (aI (aR aN 0 (dCallV 11 DX11_today (aR aN 0 (vR 0)))) 1 (vI 4)) 2 (vI 1)) 3 (vI 2))) (dCallV 5 DX5_allWords (aI (aR aN 0 (dGR 11 2 (vR 0))) 1 (vI 1)))) (dSetI 3 (d2 o_ior (vI 3) (d2 o_ishl (cI 1) (vI 4)))) dSkip) (dInc 4 1)
theorem sLX11_full_1 {ΓL : Gm} {PB PK : List Nat} : SS (cvoI, .ireturn) miX11_full ΓL PB PK [(0, 2), (1, 0), (2, 0), (3, 0), (4, 0)] [(0, 2), (1, 0), (2, 0), (3, 0), (4, 0)] 17 [64] LX11_full_1 := t_loop (pT := 29) (pF := 64) (pu := 58) (PB' := []) (PK' := []) (XB := [58]) (XU := [61]) (fun _ _ => rfl) rfl (c_lt_F (pF := 64) (s_iload dX11_full_17 rfl) (s_getI ck5 4 (by decide) rfl (s_getR ck11 2 (by decide) rfl (s_aload_n dX11_full_19 rfl rfl) dX11_full_20 w2_220) dX11_full_23 w1_156) dX11_full_26 rfl) (t_if (pT := 51) (pF := 58) (X := [58]) (XA := [58]) (XB := [58]) (c_eq_F (pF := 58) (s_of_xI (x_callV (ts := [(0, 2), (1, 0), (2, 0), (3, 0)]) ck3 rfl kX3_knownOn mokX3_knownOn w4_180 w4_181 rfl rfl rfl rfl (a_I (ts := [(0, 2), (1, 0), (2, 0)]) 3 (a_I (ts := [(0, 2), (1, 0)]) 2 (a_I (ts := [(0, 2)]) 1 (a_R (ts := []) 0 a_nil (s_of_xR (x_callV (ts := [(0, 2)]) ck11 rfl kX11_today mokX11_today w4_81 ps2_0 rfl rfl rfl rfl (a_R (ts := []) 0 a_nil (s_aload_n dX11_full_29 rfl rfl) rfl) dX11_full_30 w4_79)) rfl) (s_iload dX11_full_33 rfl) rfl) (s_iload_n dX11_full_35 rfl rfl) rfl) (s_iload_n dX11_full_36 rfl rfl) rfl) dX11_full_37 w4_179)) (s_of_xI (x_callV (ts := [(0, 2), (1, 0)]) ck5 rfl kX5_allWords mokX5_allWords w4_103 w4_104 rfl rfl rfl rfl (a_I (ts := [(0, 2)]) 1 (a_R (ts := []) 0 a_nil (s_getR ck11 2 (by decide) rfl (s_aload_n dX11_full_40 rfl rfl) dX11_full_41 w2_220) rfl) (s_iload_n dX11_full_44 rfl rfl) rfl) dX11_full_45 w4_196)) dX11_full_48 rfl) (t_istore_n (s_ior (s_iload_n dX11_full_51 rfl rfl) (s_ishl (s_iconst dX11_full_52 rfl) (s_iload dX11_full_53 rfl) dX11_full_55) dX11_full_56) dX11_full_57 rfl rfl rfl) (t_skip (ld_in rfl) rfl) (lda_cons (ld_in rfl) lda_nil) (lda_cons (ld_in rfl) lda_nil)) (t_iinc dX11_full_58 rfl rfl rfl rfl) (lda_cons (ld_in rfl) lda_nil) lda_nil (lda_cons (ld_goto (y := 17) dX11_full_61 rfl (ld_in rfl)) lda_nil) (ld_in rfl) lda_nil
noncomputable def BX11_full : Sm Int32 := (dSeq (dIf (dNot (dCZ q_ne (dCallV 11 DX11_isSlateOn (aI (aI (aR aN 0 (vR 0)) 1 (vI 1)) 2 (vI 2))))) (dRet (cI (-2))) dSkip) (dSeq (dSetI 3 (cI 0)) (dSeq (dSeq (dSetI 4 (cI 0)) LX11_full_1) (dRet (vI 3)))))
theorem sBX11_full : SS (cvoI, .ireturn) miX11_full [] [] [] [(0, 2), (1, 0), (2, 0)] [(0, 2), (1, 0), (2, 0)] 0 [] BX11_full := (t_sq (p1 := 12) (Γ' := [(0, 2), (1, 0), (2, 0)]) (t_if (pT := 9) (pF := 12) (X := [12]) (XA := []) (XB := [12]) (c_not (pT := 9) (pF := 12) (c_ne_ZJ (pT := 12) (s_of_xI (x_callV (ts := [(0, 2), (1, 0), (2, 0)]) ck11 rfl kX11_isSlateOn mokX11_isSlateOn w4_156 ps2_5 rfl rfl rfl rfl (a_I (ts := [(0, 2), (1, 0)]) 2 (a_I (ts := [(0, 2)]) 1 (a_R (ts := []) 0 a_nil (s_aload_n dX11_full_0 rfl rfl) rfl) (s_iload_n dX11_full_1 rfl rfl) rfl) (s_iload_n dX11_full_2 rfl rfl) rfl) dX11_full_3 w4_154)) dX11_full_6 rfl)) (t_ret (cv := cvI) (fun _ _ => rfl) (s_bipush dX11_full_9 rfl) dX11_full_11) (t_skip (ld_in rfl) rfl) lda_nil (lda_cons (ld_in rfl) lda_nil)) (t_sq (p1 := 14) (Γ' := [(0, 2), (1, 0), (2, 0), (3, 0)]) (t_istore_n (s_iconst dX11_full_12 rfl) dX11_full_13 rfl rfl rfl) (t_sq (p1 := 64) (Γ' := [(0, 2), (1, 0), (2, 0), (3, 0)]) (t_sq (p1 := 17) (Γ' := [(0, 2), (1, 0), (2, 0), (3, 0), (4, 0)]) (t_istore (s_iconst dX11_full_14 rfl) dX11_full_15 rfl rfl) (tn_to (Γ' := [(0, 2), (1, 0), (2, 0), (3, 0), (4, 0)]) (XA := [64]) sLX11_full_1 (lda_cons (ld_in rfl) lda_nil) rfl)) (t_ret (cv := cvI) (fun _ _ => rfl) (s_iload_n dX11_full_64 rfl rfl) dX11_full_65))))
noncomputable def DX11_full : Fr → St → Option (Int32 × St) := M1 (fun f => (sI (sI (sR fr0 0 (gR f 0)) 1 (gI f 1)) 2 (gI f 2))) BX11_full
theorem kX11_full : SND yX11_full cX11_full 5 (some .int) 8 [(0, 2), (1, 0), (2, 0)] cvoI DX11_full := snd_I (nw := 3) (by decide) rfl rfl (fun _ _ => rfl) sBX11_full
theorem dX11_when_0 : decode cX11_when 0 = .ok (.aload_n 0, 1) := by decide +kernel
theorem dX11_when_1 : decode cX11_when 1 = .ok (.getfield 26, 3) := by decide +kernel
theorem dX11_when_4 : decode cX11_when 4 = .ok (.iload_n 1, 1) := by decide +kernel
theorem dX11_when_5 : decode cX11_when 5 = .ok (.invokevirtual 117, 3) := by decide +kernel
theorem dX11_when_8 : decode cX11_when 8 = .ok (.ifCond .eq 14, 3) := by decide +kernel
theorem dX11_when_11 : decode cX11_when 11 = .ok (.aload_n 0, 1) := by decide +kernel
theorem dX11_when_12 : decode cX11_when 12 = .ok (.getfield 26, 3) := by decide +kernel
theorem dX11_when_15 : decode cX11_when 15 = .ok (.iload_n 2, 1) := by decide +kernel
theorem dX11_when_16 : decode cX11_when 16 = .ok (.invokevirtual 140, 3) := by decide +kernel
theorem dX11_when_19 : decode cX11_when 19 = .ok (.ifCond .ne 6, 3) := by decide +kernel
theorem dX11_when_22 : decode cX11_when 22 = .ok (.bipush (-2), 2) := by decide +kernel
theorem dX11_when_24 : decode cX11_when 24 = .ok (.ireturn, 1) := by decide +kernel
theorem dX11_when_25 : decode cX11_when 25 = .ok (.iconst 0, 1) := by decide +kernel
theorem dX11_when_26 : decode cX11_when 26 = .ok (.istore_n 3, 1) := by decide +kernel
theorem dX11_when_27 : decode cX11_when 27 = .ok (.iload_n 3, 1) := by decide +kernel
theorem dX11_when_28 : decode cX11_when 28 = .ok (.aload_n 0, 1) := by decide +kernel
theorem dX11_when_29 : decode cX11_when 29 = .ok (.getfield 26, 3) := by decide +kernel
theorem dX11_when_32 : decode cX11_when 32 = .ok (.getfield 200, 3) := by decide +kernel
theorem dX11_when_35 : decode cX11_when 35 = .ok (.if_icmp .gt 24, 3) := by decide +kernel
theorem dX11_when_38 : decode cX11_when 38 = .ok (.aload_n 0, 1) := by decide +kernel
theorem dX11_when_39 : decode cX11_when 39 = .ok (.invokevirtual 167, 3) := by decide +kernel
theorem dX11_when_42 : decode cX11_when 42 = .ok (.iload_n 1, 1) := by decide +kernel
theorem dX11_when_43 : decode cX11_when 43 = .ok (.iload_n 2, 1) := by decide +kernel
theorem dX11_when_44 : decode cX11_when 44 = .ok (.iload_n 3, 1) := by decide +kernel
theorem dX11_when_45 : decode cX11_when 45 = .ok (.invokevirtual 186, 3) := by decide +kernel
theorem dX11_when_48 : decode cX11_when 48 = .ok (.ifCond .eq 5, 3) := by decide +kernel
theorem dX11_when_51 : decode cX11_when 51 = .ok (.iload_n 3, 1) := by decide +kernel
theorem dX11_when_52 : decode cX11_when 52 = .ok (.ireturn, 1) := by decide +kernel
theorem dX11_when_53 : decode cX11_when 53 = .ok (.iinc 3 1, 3) := by decide +kernel
theorem dX11_when_56 : decode cX11_when 56 = .ok (.goto (-29), 3) := by decide +kernel
theorem dX11_when_59 : decode cX11_when 59 = .ok (.iconst (-1), 1) := by decide +kernel
theorem dX11_when_60 : decode cX11_when 60 = .ok (.ireturn, 1) := by decide +kernel
theorem mokX11_when : MOK yX11_when cX11_when 4 (some .int) 2 := ⟨w4_200, w1_1, ⟨by decide, by decide⟩, by decide +kernel, by decide⟩
abbrev miX11_when : MI := (yX11_when.cls, cX11_when, 4, 8, false)
noncomputable def LX11_when_1 : Sm Int32 := dLoop (fun f => (sI (sI (sI (sR fr0 0 (gR f 0)) 1 (gI f 1)) 2 (gI f 2)) 3 (gI f 3))) (dCI r_le (vI 3) (dGI 5 1 (dGR 11 2 (vR 0)))) (dIf (dCZ q_ne (dCallV 3 DX3_knownOn (aI (aI (aI (aR aN 0 (dCallV 11 DX11_today (aR aN 0 (vR 0)))) 1 (vI 1)) 2 (vI 2)) 3 (vI 3)))) (dRet (vI 3)) dSkip) (dInc 3 1)
theorem sLX11_when_1 {ΓL : Gm} {PB PK : List Nat} : SS (cvoI, .ireturn) miX11_when ΓL PB PK [(0, 2), (1, 0), (2, 0), (3, 0)] [(0, 2), (1, 0), (2, 0), (3, 0)] 27 [59] LX11_when_1 := t_loop (pT := 38) (pF := 59) (pu := 53) (PB' := []) (PK' := []) (XB := [53]) (XU := [56]) (fun _ _ => rfl) rfl (c_le_F (pF := 59) (s_iload_n dX11_when_27 rfl rfl) (s_getI ck5 1 (by decide) rfl (s_getR ck11 2 (by decide) rfl (s_aload_n dX11_when_28 rfl rfl) dX11_when_29 w2_220) dX11_when_32 w1_139) dX11_when_35 rfl) (t_if (pT := 51) (pF := 53) (X := [53]) (XA := []) (XB := [53]) (c_ne_ZF (pF := 53) (s_of_xI (x_callV (ts := [(0, 2), (1, 0), (2, 0), (3, 0)]) ck3 rfl kX3_knownOn mokX3_knownOn w4_180 w4_181 rfl rfl rfl rfl (a_I (ts := [(0, 2), (1, 0), (2, 0)]) 3 (a_I (ts := [(0, 2), (1, 0)]) 2 (a_I (ts := [(0, 2)]) 1 (a_R (ts := []) 0 a_nil (s_of_xR (x_callV (ts := [(0, 2)]) ck11 rfl kX11_today mokX11_today w4_81 ps2_0 rfl rfl rfl rfl (a_R (ts := []) 0 a_nil (s_aload_n dX11_when_38 rfl rfl) rfl) dX11_when_39 w4_79)) rfl) (s_iload_n dX11_when_42 rfl rfl) rfl) (s_iload_n dX11_when_43 rfl rfl) rfl) (s_iload_n dX11_when_44 rfl rfl) rfl) dX11_when_45 w4_179)) dX11_when_48 rfl) (t_ret (cv := cvI) (fun _ _ => rfl) (s_iload_n dX11_when_51 rfl rfl) dX11_when_52) (t_skip (ld_in rfl) rfl) lda_nil (lda_cons (ld_in rfl) lda_nil)) (t_iinc dX11_when_53 rfl rfl rfl rfl) (lda_cons (ld_in rfl) lda_nil) lda_nil (lda_cons (ld_goto (y := 27) dX11_when_56 rfl (ld_in rfl)) lda_nil) (ld_in rfl) lda_nil
noncomputable def BX11_when : Sm Int32 := (dSeq (dIf (dOr (dNot (dCZ q_ne (dCallV 5 DX5_isHouse (aI (aR aN 0 (dGR 11 2 (vR 0))) 1 (vI 1))))) (dNot (dCZ q_ne (dCallV 5 DX5_isSlate (aI (aR aN 0 (dGR 11 2 (vR 0))) 1 (vI 2)))))) (dRet (cI (-2))) dSkip) (dSeq (dSeq (dSetI 3 (cI 0)) LX11_when_1) (dRet (cI (-1)))))
theorem sBX11_when : SS (cvoI, .ireturn) miX11_when [] [] [] [(0, 2), (1, 0), (2, 0)] [(0, 2), (1, 0), (2, 0)] 0 [] BX11_when := (t_sq (p1 := 25) (Γ' := [(0, 2), (1, 0), (2, 0)]) (t_if (pT := 22) (pF := 25) (X := [25]) (XA := []) (XB := [25]) (c_or (p1 := 11) (pT := 22) (pF := 25) (c_not (pT := 22) (pF := 11) (c_ne_ZF (pF := 22) (s_of_xI (x_callV (ts := [(0, 2), (1, 0)]) ck5 rfl kX5_isHouse mokX5_isHouse w3_225 w3_226 rfl rfl rfl rfl (a_I (ts := [(0, 2)]) 1 (a_R (ts := []) 0 a_nil (s_getR ck11 2 (by decide) rfl (s_aload_n dX11_when_0 rfl rfl) dX11_when_1 w2_220) rfl) (s_iload_n dX11_when_4 rfl rfl) rfl) dX11_when_5 w3_224)) dX11_when_8 rfl)) (c_not (pT := 22) (pF := 25) (c_ne_ZJ (pT := 25) (s_of_xI (x_callV (ts := [(0, 2), (1, 0)]) ck5 rfl kX5_isSlate mokX5_isSlate w4_7 w4_8 rfl rfl rfl rfl (a_I (ts := [(0, 2)]) 1 (a_R (ts := []) 0 a_nil (s_getR ck11 2 (by decide) rfl (s_aload_n dX11_when_11 rfl rfl) dX11_when_12 w2_220) rfl) (s_iload_n dX11_when_15 rfl rfl) rfl) dX11_when_16 w4_6)) dX11_when_19 rfl))) (t_ret (cv := cvI) (fun _ _ => rfl) (s_bipush dX11_when_22 rfl) dX11_when_24) (t_skip (ld_in rfl) rfl) lda_nil (lda_cons (ld_in rfl) lda_nil)) (t_sq (p1 := 59) (Γ' := [(0, 2), (1, 0), (2, 0)]) (t_sq (p1 := 27) (Γ' := [(0, 2), (1, 0), (2, 0), (3, 0)]) (t_istore_n (s_iconst dX11_when_25 rfl) dX11_when_26 rfl rfl rfl) (tn_to (Γ' := [(0, 2), (1, 0), (2, 0), (3, 0)]) (XA := [59]) sLX11_when_1 (lda_cons (ld_in rfl) lda_nil) rfl)) (t_ret (cv := cvI) (fun _ _ => rfl) (s_iconst dX11_when_59 rfl) dX11_when_60)))
noncomputable def DX11_when : Fr → St → Option (Int32 × St) := M1 (fun f => (sI (sI (sR fr0 0 (gR f 0)) 1 (gI f 1)) 2 (gI f 2))) BX11_when
theorem kX11_when : SND yX11_when cX11_when 4 (some .int) 8 [(0, 2), (1, 0), (2, 0)] cvoI DX11_when := snd_I (nw := 3) (by decide) rfl rfl (fun _ _ => rfl) sBX11_when
theorem dX3_reasonOf_0 : decode cX3_reasonOf 0 = .ok (.aload_n 0, 1) := by decide +kernel
theorem dX3_reasonOf_1 : decode cX3_reasonOf 1 = .ok (.getfield 12, 3) := by decide +kernel
theorem dX3_reasonOf_4 : decode cX3_reasonOf 4 = .ok (.getfield 69, 3) := by decide +kernel
theorem dX3_reasonOf_7 : decode cX3_reasonOf 7 = .ok (.iload_n 1, 1) := by decide +kernel
theorem dX3_reasonOf_8 : decode cX3_reasonOf 8 = .ok (.invokestatic 58, 3) := by decide +kernel
theorem dX3_reasonOf_11 : decode cX3_reasonOf 11 = .ok (.ireturn, 1) := by decide +kernel
theorem mokX3_reasonOf : MOK yX3_reasonOf cX3_reasonOf 2 (some .int) 1 := ⟨w4_212, w1_7, ⟨by decide, by decide⟩, by decide +kernel, by decide⟩
abbrev miX3_reasonOf : MI := (yX3_reasonOf.cls, cX3_reasonOf, 2, 2, false)
noncomputable def BX3_reasonOf : Sm Int32 := (dRet (dCall DX11_cell (aI (aR aN 0 (dGR 2 13 (dGR 3 1 (vR 0)))) 1 (vI 1))))
theorem sBX3_reasonOf : SS (cvoI, .ireturn) miX3_reasonOf [] [] [] [(0, 2), (1, 0)] [(0, 2), (1, 0)] 0 [] BX3_reasonOf := (t_ret (cv := cvI) (fun _ _ => rfl) (s_of_xI (x_callN (ts := [(0, 2), (1, 0)]) kX11_cell mokX11_cell w3_229 rfl rfl rfl (a_I (ts := [(0, 2)]) 1 (a_R (ts := []) 0 a_nil (s_getR ck2 13 (by decide) rfl (s_getR ck3 1 (by decide) rfl (s_aload_n dX3_reasonOf_0 rfl rfl) dX3_reasonOf_1 w2_89) dX3_reasonOf_4 w2_54) rfl) (s_iload_n dX3_reasonOf_7 rfl rfl) rfl) dX3_reasonOf_8 nb23)) dX3_reasonOf_11)
noncomputable def DX3_reasonOf : Fr → St → Option (Int32 × St) := M1 (fun f => (sI (sR fr0 0 (gR f 0)) 1 (gI f 1))) BX3_reasonOf
theorem kX3_reasonOf : SND yX3_reasonOf cX3_reasonOf 2 (some .int) 2 [(0, 2), (1, 0)] cvoI DX3_reasonOf := snd_I (nw := 2) (by decide) rfl rfl (fun _ _ => rfl) sBX3_reasonOf
theorem dX5_isCarry_0 : decode cX5_isCarry 0 = .ok (.iload_n 1, 1) := by decide +kernel
theorem dX5_isCarry_1 : decode cX5_isCarry 1 = .ok (.ifCond .lt 18, 3) := by decide +kernel
theorem dX5_isCarry_4 : decode cX5_isCarry 4 = .ok (.iload_n 1, 1) := by decide +kernel
theorem dX5_isCarry_5 : decode cX5_isCarry 5 = .ok (.aload_n 0, 1) := by decide +kernel
theorem dX5_isCarry_6 : decode cX5_isCarry 6 = .ok (.getfield 39, 3) := by decide +kernel
theorem dX5_isCarry_9 : decode cX5_isCarry 9 = .ok (.getfield 89, 3) := by decide +kernel
theorem dX5_isCarry_12 : decode cX5_isCarry 12 = .ok (.if_icmp .ge 7, 3) := by decide +kernel
theorem dX5_isCarry_15 : decode cX5_isCarry 15 = .ok (.iconst 1, 1) := by decide +kernel
theorem dX5_isCarry_16 : decode cX5_isCarry 16 = .ok (.goto 4, 3) := by decide +kernel
theorem dX5_isCarry_19 : decode cX5_isCarry 19 = .ok (.iconst 0, 1) := by decide +kernel
theorem dX5_isCarry_20 : decode cX5_isCarry 20 = .ok (.ireturn, 1) := by decide +kernel
theorem mokX5_isCarry : MOK yX5_isCarry cX5_isCarry 2 (some .boolean) 1 := ⟨w4_208, w1_4, ⟨by decide, by decide⟩, by decide +kernel, by decide⟩
abbrev miX5_isCarry : MI := (yX5_isCarry.cls, cX5_isCarry, 2, 1, false)
noncomputable def BX5_isCarry : Sm Int32 := (dRet (dB (dAnd (dCZ q_ge (vI 1)) (dCI r_lt (vI 1) (dGI 1 1 (dGR 5 16 (vR 0)))))))
theorem sBX5_isCarry : SS (cvoI, .ireturn) miX5_isCarry [] [] [] [(0, 2), (1, 0)] [(0, 2), (1, 0)] 0 [] BX5_isCarry := (t_ret (cv := cvI) (fun _ _ => rfl) (s_B (pT := 15) (pF := 19) (pe := 20) (c_and (p1 := 4) (pT := 15) (pF := 19) (c_ge_ZF (pF := 19) (s_iload_n dX5_isCarry_0 rfl rfl) dX5_isCarry_1 rfl) (c_lt_F (pF := 19) (s_iload_n dX5_isCarry_4 rfl rfl) (s_getI ck1 1 (by decide) rfl (s_getR ck5 16 (by decide) rfl (s_aload_n dX5_isCarry_5 rfl rfl) dX5_isCarry_6 w1_197) dX5_isCarry_9 w1_93) dX5_isCarry_12 rfl)) dX5_isCarry_15 dX5_isCarry_16 rfl dX5_isCarry_19 rfl) dX5_isCarry_20)
noncomputable def DX5_isCarry : Fr → St → Option (Int32 × St) := MZ (fun f => (sI (sR fr0 0 (gR f 0)) 1 (gI f 1))) BX5_isCarry
theorem kX5_isCarry : SND yX5_isCarry cX5_isCarry 2 (some .boolean) 1 [(0, 2), (1, 0)] cvoI DX5_isCarry := snd_Z (nw := 2) (by decide) rfl rfl (fun _ _ => rfl) sBX5_isCarry
theorem dX11_done_0 : decode cX11_done 0 = .ok (.aload_n 0, 1) := by decide +kernel
theorem dX11_done_1 : decode cX11_done 1 = .ok (.getfield 26, 3) := by decide +kernel
theorem dX11_done_4 : decode cX11_done 4 = .ok (.iload_n 1, 1) := by decide +kernel
theorem dX11_done_5 : decode cX11_done 5 = .ok (.invokevirtual 203, 3) := by decide +kernel
theorem dX11_done_8 : decode cX11_done 8 = .ok (.ifCond .ne 6, 3) := by decide +kernel
theorem dX11_done_11 : decode cX11_done 11 = .ok (.bipush (-2), 2) := by decide +kernel
theorem dX11_done_13 : decode cX11_done 13 = .ok (.ireturn, 1) := by decide +kernel
theorem dX11_done_14 : decode cX11_done 14 = .ok (.aload_n 0, 1) := by decide +kernel
theorem dX11_done_15 : decode cX11_done 15 = .ok (.invokevirtual 167, 3) := by decide +kernel
theorem dX11_done_18 : decode cX11_done 18 = .ok (.iload_n 1, 1) := by decide +kernel
theorem dX11_done_19 : decode cX11_done 19 = .ok (.invokevirtual 206, 3) := by decide +kernel
theorem dX11_done_22 : decode cX11_done 22 = .ok (.ifCond .ne 7, 3) := by decide +kernel
theorem dX11_done_25 : decode cX11_done 25 = .ok (.iconst 1, 1) := by decide +kernel
theorem dX11_done_26 : decode cX11_done 26 = .ok (.goto 4, 3) := by decide +kernel
theorem dX11_done_29 : decode cX11_done 29 = .ok (.iconst 0, 1) := by decide +kernel
theorem dX11_done_30 : decode cX11_done 30 = .ok (.ireturn, 1) := by decide +kernel
theorem mokX11_done : MOK yX11_done cX11_done 2 (some .int) 1 := ⟨w4_204, w1_1, ⟨by decide, by decide⟩, by decide +kernel, by decide⟩
abbrev miX11_done : MI := (yX11_done.cls, cX11_done, 2, 8, false)
noncomputable def BX11_done : Sm Int32 := (dSeq (dIf (dNot (dCZ q_ne (dCallV 5 DX5_isCarry (aI (aR aN 0 (dGR 11 2 (vR 0))) 1 (vI 1))))) (dRet (cI (-2))) dSkip) (dRet (dT (dCZ q_eq (dCallV 3 DX3_reasonOf (aI (aR aN 0 (dCallV 11 DX11_today (aR aN 0 (vR 0)))) 1 (vI 1)))) (cI 1) (cI 0))))
theorem sBX11_done : SS (cvoI, .ireturn) miX11_done [] [] [] [(0, 2), (1, 0)] [(0, 2), (1, 0)] 0 [] BX11_done := (t_sq (p1 := 14) (Γ' := [(0, 2), (1, 0)]) (t_if (pT := 11) (pF := 14) (X := [14]) (XA := []) (XB := [14]) (c_not (pT := 11) (pF := 14) (c_ne_ZJ (pT := 14) (s_of_xI (x_callV (ts := [(0, 2), (1, 0)]) ck5 rfl kX5_isCarry mokX5_isCarry w4_206 w4_207 rfl rfl rfl rfl (a_I (ts := [(0, 2)]) 1 (a_R (ts := []) 0 a_nil (s_getR ck11 2 (by decide) rfl (s_aload_n dX11_done_0 rfl rfl) dX11_done_1 w2_220) rfl) (s_iload_n dX11_done_4 rfl rfl) rfl) dX11_done_5 w4_205)) dX11_done_8 rfl)) (t_ret (cv := cvI) (fun _ _ => rfl) (s_bipush dX11_done_11 rfl) dX11_done_13) (t_skip (ld_in rfl) rfl) lda_nil (lda_cons (ld_in rfl) lda_nil)) (t_ret (cv := cvI) (fun _ _ => rfl) (s_T (pT := 25) (pF := 29) (p1 := 26) (pe := 30) (c_eq_ZF (pF := 29) (s_of_xI (x_callV (ts := [(0, 2), (1, 0)]) ck3 rfl kX3_reasonOf mokX3_reasonOf w4_210 w4_211 rfl rfl rfl rfl (a_I (ts := [(0, 2)]) 1 (a_R (ts := []) 0 a_nil (s_of_xR (x_callV (ts := [(0, 2)]) ck11 rfl kX11_today mokX11_today w4_81 ps2_0 rfl rfl rfl rfl (a_R (ts := []) 0 a_nil (s_aload_n dX11_done_14 rfl rfl) rfl) dX11_done_15 w4_79)) rfl) (s_iload_n dX11_done_18 rfl rfl) rfl) dX11_done_19 w4_209)) dX11_done_22 rfl) (s_iconst dX11_done_25 rfl) (s_iconst dX11_done_29 rfl) (ld_goto (y := 30) dX11_done_26 rfl (ld_in rfl))) dX11_done_30))
noncomputable def DX11_done : Fr → St → Option (Int32 × St) := M1 (fun f => (sI (sR fr0 0 (gR f 0)) 1 (gI f 1))) BX11_done
theorem kX11_done : SND yX11_done cX11_done 2 (some .int) 8 [(0, 2), (1, 0)] cvoI DX11_done := snd_I (nw := 2) (by decide) rfl rfl (fun _ _ => rfl) sBX11_done
theorem dX11_dones_0 : decode cX11_dones 0 = .ok (.aload_n 0, 1) := by decide +kernel
theorem dX11_dones_1 : decode cX11_dones 1 = .ok (.getfield 26, 3) := by decide +kernel
theorem dX11_dones_4 : decode cX11_dones 4 = .ok (.invokevirtual 209, 3) := by decide +kernel
theorem dX11_dones_7 : decode cX11_dones 7 = .ok (.ifCond .ne 6, 3) := by decide +kernel
theorem dX11_dones_10 : decode cX11_dones 10 = .ok (.bipush (-2), 2) := by decide +kernel
theorem dX11_dones_12 : decode cX11_dones 12 = .ok (.ireturn, 1) := by decide +kernel
theorem dX11_dones_13 : decode cX11_dones 13 = .ok (.iconst 0, 1) := by decide +kernel
theorem dX11_dones_14 : decode cX11_dones 14 = .ok (.istore_n 1, 1) := by decide +kernel
theorem dX11_dones_15 : decode cX11_dones 15 = .ok (.iconst 0, 1) := by decide +kernel
theorem dX11_dones_16 : decode cX11_dones 16 = .ok (.istore_n 2, 1) := by decide +kernel
theorem dX11_dones_17 : decode cX11_dones 17 = .ok (.iload_n 2, 1) := by decide +kernel
theorem dX11_dones_18 : decode cX11_dones 18 = .ok (.aload_n 0, 1) := by decide +kernel
theorem dX11_dones_19 : decode cX11_dones 19 = .ok (.getfield 26, 3) := by decide +kernel
theorem dX11_dones_22 : decode cX11_dones 22 = .ok (.getfield 213, 3) := by decide +kernel
theorem dX11_dones_25 : decode cX11_dones 25 = .ok (.getfield 217, 3) := by decide +kernel
theorem dX11_dones_28 : decode cX11_dones 28 = .ok (.if_icmp .ge 26, 3) := by decide +kernel
theorem dX11_dones_31 : decode cX11_dones 31 = .ok (.aload_n 0, 1) := by decide +kernel
theorem dX11_dones_32 : decode cX11_dones 32 = .ok (.invokevirtual 167, 3) := by decide +kernel
theorem dX11_dones_35 : decode cX11_dones 35 = .ok (.iload_n 2, 1) := by decide +kernel
theorem dX11_dones_36 : decode cX11_dones 36 = .ok (.invokevirtual 206, 3) := by decide +kernel
theorem dX11_dones_39 : decode cX11_dones 39 = .ok (.ifCond .ne 9, 3) := by decide +kernel
theorem dX11_dones_42 : decode cX11_dones 42 = .ok (.iload_n 1, 1) := by decide +kernel
theorem dX11_dones_43 : decode cX11_dones 43 = .ok (.iconst 1, 1) := by decide +kernel
theorem dX11_dones_44 : decode cX11_dones 44 = .ok (.iload_n 2, 1) := by decide +kernel
theorem dX11_dones_45 : decode cX11_dones 45 = .ok (.ishl, 1) := by decide +kernel
theorem dX11_dones_46 : decode cX11_dones 46 = .ok (.ior, 1) := by decide +kernel
theorem dX11_dones_47 : decode cX11_dones 47 = .ok (.istore_n 1, 1) := by decide +kernel
theorem dX11_dones_48 : decode cX11_dones 48 = .ok (.iinc 2 1, 3) := by decide +kernel
theorem dX11_dones_51 : decode cX11_dones 51 = .ok (.goto (-34), 3) := by decide +kernel
theorem dX11_dones_54 : decode cX11_dones 54 = .ok (.iload_n 1, 1) := by decide +kernel
theorem dX11_dones_55 : decode cX11_dones 55 = .ok (.ireturn, 1) := by decide +kernel
theorem mokX11_dones : MOK yX11_dones cX11_dones 3 (some .int) 0 := ⟨w4_216, w1_1, ⟨by decide, by decide⟩, by decide +kernel, by decide⟩
abbrev miX11_dones : MI := (yX11_dones.cls, cX11_dones, 3, 8, false)
noncomputable def LX11_dones_1 : Sm Int32 := dLoop (fun f => (sI (sI (sR fr0 0 (gR f 0)) 1 (gI f 1)) 2 (gI f 2))) (dCI r_lt (vI 2) (dGI 1 1 (dGR 5 16 (dGR 11 2 (vR 0))))) (dIf (dCZ q_eq (dCallV 3 DX3_reasonOf (aI (aR aN 0 (dCallV 11 DX11_today (aR aN 0 (vR 0)))) 1 (vI 2)))) (dSetI 1 (d2 o_ior (vI 1) (d2 o_ishl (cI 1) (vI 2)))) dSkip) (dInc 2 1)
theorem sLX11_dones_1 {ΓL : Gm} {PB PK : List Nat} : SS (cvoI, .ireturn) miX11_dones ΓL PB PK [(0, 2), (1, 0), (2, 0)] [(0, 2), (1, 0), (2, 0)] 17 [54] LX11_dones_1 := t_loop (pT := 31) (pF := 54) (pu := 48) (PB' := []) (PK' := []) (XB := [48]) (XU := [51]) (fun _ _ => rfl) rfl (c_lt_F (pF := 54) (s_iload_n dX11_dones_17 rfl rfl) (s_getI ck1 1 (by decide) rfl (s_getR ck5 16 (by decide) rfl (s_getR ck11 2 (by decide) rfl (s_aload_n dX11_dones_18 rfl rfl) dX11_dones_19 w2_220) dX11_dones_22 w1_200) dX11_dones_25 w1_94) dX11_dones_28 rfl) (t_if (pT := 42) (pF := 48) (X := [48]) (XA := [48]) (XB := [48]) (c_eq_ZF (pF := 48) (s_of_xI (x_callV (ts := [(0, 2), (1, 0)]) ck3 rfl kX3_reasonOf mokX3_reasonOf w4_210 w4_211 rfl rfl rfl rfl (a_I (ts := [(0, 2)]) 1 (a_R (ts := []) 0 a_nil (s_of_xR (x_callV (ts := [(0, 2)]) ck11 rfl kX11_today mokX11_today w4_81 ps2_0 rfl rfl rfl rfl (a_R (ts := []) 0 a_nil (s_aload_n dX11_dones_31 rfl rfl) rfl) dX11_dones_32 w4_79)) rfl) (s_iload_n dX11_dones_35 rfl rfl) rfl) dX11_dones_36 w4_209)) dX11_dones_39 rfl) (t_istore_n (s_ior (s_iload_n dX11_dones_42 rfl rfl) (s_ishl (s_iconst dX11_dones_43 rfl) (s_iload_n dX11_dones_44 rfl rfl) dX11_dones_45) dX11_dones_46) dX11_dones_47 rfl rfl rfl) (t_skip (ld_in rfl) rfl) (lda_cons (ld_in rfl) lda_nil) (lda_cons (ld_in rfl) lda_nil)) (t_iinc dX11_dones_48 rfl rfl rfl rfl) (lda_cons (ld_in rfl) lda_nil) lda_nil (lda_cons (ld_goto (y := 17) dX11_dones_51 rfl (ld_in rfl)) lda_nil) (ld_in rfl) lda_nil
noncomputable def BX11_dones : Sm Int32 := (dSeq (dIf (dNot (dCZ q_ne (dCallV 5 DX5_isTold (aR aN 0 (dGR 11 2 (vR 0)))))) (dRet (cI (-2))) dSkip) (dSeq (dSetI 1 (cI 0)) (dSeq (dSeq (dSetI 2 (cI 0)) LX11_dones_1) (dRet (vI 1)))))
theorem sBX11_dones : SS (cvoI, .ireturn) miX11_dones [] [] [] [(0, 2)] [(0, 2)] 0 [] BX11_dones := (t_sq (p1 := 13) (Γ' := [(0, 2)]) (t_if (pT := 10) (pF := 13) (X := [13]) (XA := []) (XB := [13]) (c_not (pT := 10) (pF := 13) (c_ne_ZJ (pT := 13) (s_of_xI (x_callV (ts := [(0, 2)]) ck5 rfl kX5_isTold mokX5_isTold w4_76 w4_77 rfl rfl rfl rfl (a_R (ts := []) 0 a_nil (s_getR ck11 2 (by decide) rfl (s_aload_n dX11_dones_0 rfl rfl) dX11_dones_1 w2_220) rfl) dX11_dones_4 w4_217)) dX11_dones_7 rfl)) (t_ret (cv := cvI) (fun _ _ => rfl) (s_bipush dX11_dones_10 rfl) dX11_dones_12) (t_skip (ld_in rfl) rfl) lda_nil (lda_cons (ld_in rfl) lda_nil)) (t_sq (p1 := 15) (Γ' := [(0, 2), (1, 0)]) (t_istore_n (s_iconst dX11_dones_13 rfl) dX11_dones_14 rfl rfl rfl) (t_sq (p1 := 54) (Γ' := [(0, 2), (1, 0)]) (t_sq (p1 := 17) (Γ' := [(0, 2), (1, 0), (2, 0)]) (t_istore_n (s_iconst dX11_dones_15 rfl) dX11_dones_16 rfl rfl rfl) (tn_to (Γ' := [(0, 2), (1, 0), (2, 0)]) (XA := [54]) sLX11_dones_1 (lda_cons (ld_in rfl) lda_nil) rfl)) (t_ret (cv := cvI) (fun _ _ => rfl) (s_iload_n dX11_dones_54 rfl rfl) dX11_dones_55))))
noncomputable def DX11_dones : Fr → St → Option (Int32 × St) := M1 (fun f => (sR fr0 0 (gR f 0))) BX11_dones
theorem kX11_dones : SND yX11_dones cX11_dones 3 (some .int) 8 [(0, 2)] cvoI DX11_dones := snd_I (nw := 1) (by decide) rfl rfl (fun _ _ => rfl) sBX11_dones
theorem dX11_why_0 : decode cX11_why 0 = .ok (.aload_n 0, 1) := by decide +kernel
theorem dX11_why_1 : decode cX11_why 1 = .ok (.getfield 26, 3) := by decide +kernel
theorem dX11_why_4 : decode cX11_why 4 = .ok (.iload_n 1, 1) := by decide +kernel
theorem dX11_why_5 : decode cX11_why 5 = .ok (.invokevirtual 203, 3) := by decide +kernel
theorem dX11_why_8 : decode cX11_why 8 = .ok (.ifCond .eq 14, 3) := by decide +kernel
theorem dX11_why_11 : decode cX11_why 11 = .ok (.aload_n 0, 1) := by decide +kernel
theorem dX11_why_12 : decode cX11_why 12 = .ok (.invokevirtual 167, 3) := by decide +kernel
theorem dX11_why_15 : decode cX11_why 15 = .ok (.iload_n 1, 1) := by decide +kernel
theorem dX11_why_16 : decode cX11_why 16 = .ok (.invokevirtual 206, 3) := by decide +kernel
theorem dX11_why_19 : decode cX11_why 19 = .ok (.goto 5, 3) := by decide +kernel
theorem dX11_why_22 : decode cX11_why 22 = .ok (.bipush (-2), 2) := by decide +kernel
theorem dX11_why_24 : decode cX11_why 24 = .ok (.ireturn, 1) := by decide +kernel
theorem mokX11_why : MOK yX11_why cX11_why 2 (some .int) 1 := ⟨w4_221, w1_1, ⟨by decide, by decide⟩, by decide +kernel, by decide⟩
abbrev miX11_why : MI := (yX11_why.cls, cX11_why, 2, 8, false)
noncomputable def BX11_why : Sm Int32 := (dRet (dT (dCZ q_ne (dCallV 5 DX5_isCarry (aI (aR aN 0 (dGR 11 2 (vR 0))) 1 (vI 1)))) (dCallV 3 DX3_reasonOf (aI (aR aN 0 (dCallV 11 DX11_today (aR aN 0 (vR 0)))) 1 (vI 1))) (cI (-2))))
theorem sBX11_why : SS (cvoI, .ireturn) miX11_why [] [] [] [(0, 2), (1, 0)] [(0, 2), (1, 0)] 0 [] BX11_why := (t_ret (cv := cvI) (fun _ _ => rfl) (s_T (pT := 11) (pF := 22) (p1 := 19) (pe := 24) (c_ne_ZF (pF := 22) (s_of_xI (x_callV (ts := [(0, 2), (1, 0)]) ck5 rfl kX5_isCarry mokX5_isCarry w4_206 w4_207 rfl rfl rfl rfl (a_I (ts := [(0, 2)]) 1 (a_R (ts := []) 0 a_nil (s_getR ck11 2 (by decide) rfl (s_aload_n dX11_why_0 rfl rfl) dX11_why_1 w2_220) rfl) (s_iload_n dX11_why_4 rfl rfl) rfl) dX11_why_5 w4_205)) dX11_why_8 rfl) (s_of_xI (x_callV (ts := [(0, 2), (1, 0)]) ck3 rfl kX3_reasonOf mokX3_reasonOf w4_210 w4_211 rfl rfl rfl rfl (a_I (ts := [(0, 2)]) 1 (a_R (ts := []) 0 a_nil (s_of_xR (x_callV (ts := [(0, 2)]) ck11 rfl kX11_today mokX11_today w4_81 ps2_0 rfl rfl rfl rfl (a_R (ts := []) 0 a_nil (s_aload_n dX11_why_11 rfl rfl) rfl) dX11_why_12 w4_79)) rfl) (s_iload_n dX11_why_15 rfl rfl) rfl) dX11_why_16 w4_209)) (s_bipush dX11_why_22 rfl) (ld_goto (y := 24) dX11_why_19 rfl (ld_in rfl))) dX11_why_24)
noncomputable def DX11_why : Fr → St → Option (Int32 × St) := M1 (fun f => (sI (sR fr0 0 (gR f 0)) 1 (gI f 1))) BX11_why
theorem kX11_why : SND yX11_why cX11_why 2 (some .int) 8 [(0, 2), (1, 0)] cvoI DX11_why := snd_I (nw := 2) (by decide) rfl rfl (fun _ _ => rfl) sBX11_why
theorem dX3_loadOf_0 : decode cX3_loadOf 0 = .ok (.aload_n 0, 1) := by decide +kernel
theorem dX3_loadOf_1 : decode cX3_loadOf 1 = .ok (.getfield 12, 3) := by decide +kernel
theorem dX3_loadOf_4 : decode cX3_loadOf 4 = .ok (.getfield 72, 3) := by decide +kernel
theorem dX3_loadOf_7 : decode cX3_loadOf 7 = .ok (.iload_n 1, 1) := by decide +kernel
theorem dX3_loadOf_8 : decode cX3_loadOf 8 = .ok (.invokestatic 58, 3) := by decide +kernel
theorem dX3_loadOf_11 : decode cX3_loadOf 11 = .ok (.ireturn, 1) := by decide +kernel
theorem mokX3_loadOf : MOK yX3_loadOf cX3_loadOf 2 (some .int) 1 := ⟨w4_229, w1_7, ⟨by decide, by decide⟩, by decide +kernel, by decide⟩
abbrev miX3_loadOf : MI := (yX3_loadOf.cls, cX3_loadOf, 2, 2, false)
noncomputable def BX3_loadOf : Sm Int32 := (dRet (dCall DX11_cell (aI (aR aN 0 (dGR 2 14 (dGR 3 1 (vR 0)))) 1 (vI 1))))
theorem sBX3_loadOf : SS (cvoI, .ireturn) miX3_loadOf [] [] [] [(0, 2), (1, 0)] [(0, 2), (1, 0)] 0 [] BX3_loadOf := (t_ret (cv := cvI) (fun _ _ => rfl) (s_of_xI (x_callN (ts := [(0, 2), (1, 0)]) kX11_cell mokX11_cell w3_229 rfl rfl rfl (a_I (ts := [(0, 2)]) 1 (a_R (ts := []) 0 a_nil (s_getR ck2 14 (by decide) rfl (s_getR ck3 1 (by decide) rfl (s_aload_n dX3_loadOf_0 rfl rfl) dX3_loadOf_1 w2_89) dX3_loadOf_4 w2_56) rfl) (s_iload_n dX3_loadOf_7 rfl rfl) rfl) dX3_loadOf_8 nb23)) dX3_loadOf_11)
noncomputable def DX3_loadOf : Fr → St → Option (Int32 × St) := M1 (fun f => (sI (sR fr0 0 (gR f 0)) 1 (gI f 1))) BX3_loadOf
theorem kX3_loadOf : SND yX3_loadOf cX3_loadOf 2 (some .int) 2 [(0, 2), (1, 0)] cvoI DX3_loadOf := snd_I (nw := 2) (by decide) rfl rfl (fun _ _ => rfl) sBX3_loadOf
theorem dX11_load_0 : decode cX11_load 0 = .ok (.aload_n 0, 1) := by decide +kernel
theorem dX11_load_1 : decode cX11_load 1 = .ok (.getfield 26, 3) := by decide +kernel
theorem dX11_load_4 : decode cX11_load 4 = .ok (.iload_n 1, 1) := by decide +kernel
theorem dX11_load_5 : decode cX11_load 5 = .ok (.invokevirtual 203, 3) := by decide +kernel
theorem dX11_load_8 : decode cX11_load 8 = .ok (.ifCond .eq 14, 3) := by decide +kernel
theorem dX11_load_11 : decode cX11_load 11 = .ok (.aload_n 0, 1) := by decide +kernel
theorem dX11_load_12 : decode cX11_load 12 = .ok (.invokevirtual 167, 3) := by decide +kernel
theorem dX11_load_15 : decode cX11_load 15 = .ok (.iload_n 1, 1) := by decide +kernel
theorem dX11_load_16 : decode cX11_load 16 = .ok (.invokevirtual 220, 3) := by decide +kernel
theorem dX11_load_19 : decode cX11_load 19 = .ok (.goto 5, 3) := by decide +kernel
theorem dX11_load_22 : decode cX11_load 22 = .ok (.bipush (-2), 2) := by decide +kernel
theorem dX11_load_24 : decode cX11_load 24 = .ok (.ireturn, 1) := by decide +kernel
theorem mokX11_load : MOK yX11_load cX11_load 2 (some .int) 1 := ⟨w4_225, w1_1, ⟨by decide, by decide⟩, by decide +kernel, by decide⟩
abbrev miX11_load : MI := (yX11_load.cls, cX11_load, 2, 8, false)
noncomputable def BX11_load : Sm Int32 := (dRet (dT (dCZ q_ne (dCallV 5 DX5_isCarry (aI (aR aN 0 (dGR 11 2 (vR 0))) 1 (vI 1)))) (dCallV 3 DX3_loadOf (aI (aR aN 0 (dCallV 11 DX11_today (aR aN 0 (vR 0)))) 1 (vI 1))) (cI (-2))))
theorem sBX11_load : SS (cvoI, .ireturn) miX11_load [] [] [] [(0, 2), (1, 0)] [(0, 2), (1, 0)] 0 [] BX11_load := (t_ret (cv := cvI) (fun _ _ => rfl) (s_T (pT := 11) (pF := 22) (p1 := 19) (pe := 24) (c_ne_ZF (pF := 22) (s_of_xI (x_callV (ts := [(0, 2), (1, 0)]) ck5 rfl kX5_isCarry mokX5_isCarry w4_206 w4_207 rfl rfl rfl rfl (a_I (ts := [(0, 2)]) 1 (a_R (ts := []) 0 a_nil (s_getR ck11 2 (by decide) rfl (s_aload_n dX11_load_0 rfl rfl) dX11_load_1 w2_220) rfl) (s_iload_n dX11_load_4 rfl rfl) rfl) dX11_load_5 w4_205)) dX11_load_8 rfl) (s_of_xI (x_callV (ts := [(0, 2), (1, 0)]) ck3 rfl kX3_loadOf mokX3_loadOf w4_227 w4_228 rfl rfl rfl rfl (a_I (ts := [(0, 2)]) 1 (a_R (ts := []) 0 a_nil (s_of_xR (x_callV (ts := [(0, 2)]) ck11 rfl kX11_today mokX11_today w4_81 ps2_0 rfl rfl rfl rfl (a_R (ts := []) 0 a_nil (s_aload_n dX11_load_11 rfl rfl) rfl) dX11_load_12 w4_79)) rfl) (s_iload_n dX11_load_15 rfl rfl) rfl) dX11_load_16 w4_226)) (s_bipush dX11_load_22 rfl) (ld_goto (y := 24) dX11_load_19 rfl (ld_in rfl))) dX11_load_24)
noncomputable def DX11_load : Fr → St → Option (Int32 × St) := M1 (fun f => (sI (sR fr0 0 (gR f 0)) 1 (gI f 1))) BX11_load
theorem kX11_load : SND yX11_load cX11_load 2 (some .int) 8 [(0, 2), (1, 0)] cvoI DX11_load := snd_I (nw := 2) (by decide) rfl rfl (fun _ _ => rfl) sBX11_load
theorem dX3_outOn_0 : decode cX3_outOn 0 = .ok (.aload_n 0, 1) := by decide +kernel
theorem dX3_outOn_1 : decode cX3_outOn 1 = .ok (.getfield 31, 3) := by decide +kernel
theorem dX3_outOn_4 : decode cX3_outOn 4 = .ok (.iload_n 1, 1) := by decide +kernel
theorem dX3_outOn_5 : decode cX3_outOn 5 = .ok (.invokestatic 58, 3) := by decide +kernel
theorem dX3_outOn_8 : decode cX3_outOn 8 = .ok (.ireturn, 1) := by decide +kernel
theorem mokX3_outOn : MOK yX3_outOn cX3_outOn 2 (some .int) 1 := ⟨w5_5, w1_7, ⟨by decide, by decide⟩, by decide +kernel, by decide⟩
abbrev miX3_outOn : MI := (yX3_outOn.cls, cX3_outOn, 2, 2, false)
noncomputable def BX3_outOn : Sm Int32 := (dRet (dCall DX11_cell (aI (aR aN 0 (dGR 3 6 (vR 0))) 1 (vI 1))))
theorem sBX3_outOn : SS (cvoI, .ireturn) miX3_outOn [] [] [] [(0, 2), (1, 0)] [(0, 2), (1, 0)] 0 [] BX3_outOn := (t_ret (cv := cvI) (fun _ _ => rfl) (s_of_xI (x_callN (ts := [(0, 2), (1, 0)]) kX11_cell mokX11_cell w3_229 rfl rfl rfl (a_I (ts := [(0, 2)]) 1 (a_R (ts := []) 0 a_nil (s_getR ck3 6 (by decide) rfl (s_aload_n dX3_outOn_0 rfl rfl) dX3_outOn_1 w2_96) rfl) (s_iload_n dX3_outOn_4 rfl rfl) rfl) dX3_outOn_5 nb23)) dX3_outOn_8)
noncomputable def DX3_outOn : Fr → St → Option (Int32 × St) := M1 (fun f => (sI (sR fr0 0 (gR f 0)) 1 (gI f 1))) BX3_outOn
theorem kX3_outOn : SND yX3_outOn cX3_outOn 2 (some .int) 2 [(0, 2), (1, 0)] cvoI DX3_outOn := snd_I (nw := 2) (by decide) rfl rfl (fun _ _ => rfl) sBX3_outOn
theorem dX5_allCarriers_0 : decode cX5_allCarriers 0 = .ok (.iconst 1, 1) := by decide +kernel
theorem dX5_allCarriers_1 : decode cX5_allCarriers 1 = .ok (.aload_n 0, 1) := by decide +kernel
theorem dX5_allCarriers_2 : decode cX5_allCarriers 2 = .ok (.getfield 62, 3) := by decide +kernel
theorem dX5_allCarriers_5 : decode cX5_allCarriers 5 = .ok (.ishl, 1) := by decide +kernel
theorem dX5_allCarriers_6 : decode cX5_allCarriers 6 = .ok (.iconst 1, 1) := by decide +kernel
theorem dX5_allCarriers_7 : decode cX5_allCarriers 7 = .ok (.isub, 1) := by decide +kernel
theorem dX5_allCarriers_8 : decode cX5_allCarriers 8 = .ok (.ireturn, 1) := by decide +kernel
theorem mokX5_allCarriers : MOK yX5_allCarriers cX5_allCarriers 1 (some .int) 0 := ⟨w5_1, w1_4, ⟨by decide, by decide⟩, by decide +kernel, by decide⟩
abbrev miX5_allCarriers : MI := (yX5_allCarriers.cls, cX5_allCarriers, 1, 1, false)
noncomputable def BX5_allCarriers : Sm Int32 := (dRet (d2 o_isub (d2 o_ishl (cI 1) (dGI 5 6 (vR 0))) (cI 1)))
theorem sBX5_allCarriers : SS (cvoI, .ireturn) miX5_allCarriers [] [] [] [(0, 2)] [(0, 2)] 0 [] BX5_allCarriers := (t_ret (cv := cvI) (fun _ _ => rfl) (s_isub (s_ishl (s_iconst dX5_allCarriers_0 rfl) (s_getI ck5 6 (by decide) rfl (s_aload_n dX5_allCarriers_1 rfl rfl) dX5_allCarriers_2 w1_161) dX5_allCarriers_5) (s_iconst dX5_allCarriers_6 rfl) dX5_allCarriers_7) dX5_allCarriers_8)
noncomputable def DX5_allCarriers : Fr → St → Option (Int32 × St) := M1 (fun f => (sR fr0 0 (gR f 0))) BX5_allCarriers
theorem kX5_allCarriers : SND yX5_allCarriers cX5_allCarriers 1 (some .int) 1 [(0, 2)] cvoI DX5_allCarriers := snd_I (nw := 1) (by decide) rfl rfl (fun _ _ => rfl) sBX5_allCarriers
theorem dX5_isDayAhead_0 : decode cX5_isDayAhead 0 = .ok (.iload_n 1, 1) := by decide +kernel
theorem dX5_isDayAhead_1 : decode cX5_isDayAhead 1 = .ok (.ifCond .lt 15, 3) := by decide +kernel
theorem dX5_isDayAhead_4 : decode cX5_isDayAhead 4 = .ok (.iload_n 1, 1) := by decide +kernel
theorem dX5_isDayAhead_5 : decode cX5_isDayAhead 5 = .ok (.aload_n 0, 1) := by decide +kernel
theorem dX5_isDayAhead_6 : decode cX5_isDayAhead 6 = .ok (.getfield 47, 3) := by decide +kernel
theorem dX5_isDayAhead_9 : decode cX5_isDayAhead 9 = .ok (.if_icmp .ge 7, 3) := by decide +kernel
theorem dX5_isDayAhead_12 : decode cX5_isDayAhead 12 = .ok (.iconst 1, 1) := by decide +kernel
theorem dX5_isDayAhead_13 : decode cX5_isDayAhead 13 = .ok (.goto 4, 3) := by decide +kernel
theorem dX5_isDayAhead_16 : decode cX5_isDayAhead 16 = .ok (.iconst 0, 1) := by decide +kernel
theorem dX5_isDayAhead_17 : decode cX5_isDayAhead 17 = .ok (.ireturn, 1) := by decide +kernel
theorem mokX5_isDayAhead : MOK yX5_isDayAhead cX5_isDayAhead 2 (some .boolean) 1 := ⟨w4_237, w1_4, ⟨by decide, by decide⟩, by decide +kernel, by decide⟩
abbrev miX5_isDayAhead : MI := (yX5_isDayAhead.cls, cX5_isDayAhead, 2, 1, false)
noncomputable def BX5_isDayAhead : Sm Int32 := (dRet (dB (dAnd (dCZ q_ge (vI 1)) (dCI r_lt (vI 1) (dGI 5 1 (vR 0))))))
theorem sBX5_isDayAhead : SS (cvoI, .ireturn) miX5_isDayAhead [] [] [] [(0, 2), (1, 0)] [(0, 2), (1, 0)] 0 [] BX5_isDayAhead := (t_ret (cv := cvI) (fun _ _ => rfl) (s_B (pT := 12) (pF := 16) (pe := 17) (c_and (p1 := 4) (pT := 12) (pF := 16) (c_ge_ZF (pF := 16) (s_iload_n dX5_isDayAhead_0 rfl rfl) dX5_isDayAhead_1 rfl) (c_lt_F (pF := 16) (s_iload_n dX5_isDayAhead_4 rfl rfl) (s_getI ck5 1 (by decide) rfl (s_aload_n dX5_isDayAhead_5 rfl rfl) dX5_isDayAhead_6 w1_133) dX5_isDayAhead_9 rfl)) dX5_isDayAhead_12 dX5_isDayAhead_13 rfl dX5_isDayAhead_16 rfl) dX5_isDayAhead_17)
noncomputable def DX5_isDayAhead : Fr → St → Option (Int32 × St) := MZ (fun f => (sI (sR fr0 0 (gR f 0)) 1 (gI f 1))) BX5_isDayAhead
theorem kX5_isDayAhead : SND yX5_isDayAhead cX5_isDayAhead 2 (some .boolean) 1 [(0, 2), (1, 0)] cvoI DX5_isDayAhead := snd_Z (nw := 2) (by decide) rfl rfl (fun _ _ => rfl) sBX5_isDayAhead
theorem dX11_idle_0 : decode cX11_idle 0 = .ok (.aload_n 0, 1) := by decide +kernel
theorem dX11_idle_1 : decode cX11_idle 1 = .ok (.getfield 26, 3) := by decide +kernel
theorem dX11_idle_4 : decode cX11_idle 4 = .ok (.iload_n 1, 1) := by decide +kernel
theorem dX11_idle_5 : decode cX11_idle 5 = .ok (.invokevirtual 223, 3) := by decide +kernel
theorem dX11_idle_8 : decode cX11_idle 8 = .ok (.ifCond .ne 6, 3) := by decide +kernel
theorem dX11_idle_11 : decode cX11_idle 11 = .ok (.bipush (-2), 2) := by decide +kernel
theorem dX11_idle_13 : decode cX11_idle 13 = .ok (.ireturn, 1) := by decide +kernel
theorem dX11_idle_14 : decode cX11_idle 14 = .ok (.aload_n 0, 1) := by decide +kernel
theorem dX11_idle_15 : decode cX11_idle 15 = .ok (.getfield 26, 3) := by decide +kernel
theorem dX11_idle_18 : decode cX11_idle 18 = .ok (.invokevirtual 226, 3) := by decide +kernel
theorem dX11_idle_21 : decode cX11_idle 21 = .ok (.aload_n 0, 1) := by decide +kernel
theorem dX11_idle_22 : decode cX11_idle 22 = .ok (.invokevirtual 167, 3) := by decide +kernel
theorem dX11_idle_25 : decode cX11_idle 25 = .ok (.iload_n 1, 1) := by decide +kernel
theorem dX11_idle_26 : decode cX11_idle 26 = .ok (.invokevirtual 230, 3) := by decide +kernel
theorem dX11_idle_29 : decode cX11_idle 29 = .ok (.iconst (-1), 1) := by decide +kernel
theorem dX11_idle_30 : decode cX11_idle 30 = .ok (.ixor, 1) := by decide +kernel
theorem dX11_idle_31 : decode cX11_idle 31 = .ok (.iand, 1) := by decide +kernel
theorem dX11_idle_32 : decode cX11_idle 32 = .ok (.ireturn, 1) := by decide +kernel
theorem mokX11_idle : MOK yX11_idle cX11_idle 2 (some .int) 1 := ⟨w4_233, w1_1, ⟨by decide, by decide⟩, by decide +kernel, by decide⟩
abbrev miX11_idle : MI := (yX11_idle.cls, cX11_idle, 2, 8, false)
noncomputable def BX11_idle : Sm Int32 := (dSeq (dIf (dNot (dCZ q_ne (dCallV 5 DX5_isDayAhead (aI (aR aN 0 (dGR 11 2 (vR 0))) 1 (vI 1))))) (dRet (cI (-2))) dSkip) (dRet (d2 o_iand (dCallV 5 DX5_allCarriers (aR aN 0 (dGR 11 2 (vR 0)))) (d2 o_ixor (dCallV 3 DX3_outOn (aI (aR aN 0 (dCallV 11 DX11_today (aR aN 0 (vR 0)))) 1 (vI 1))) (cI (-1))))))
theorem sBX11_idle : SS (cvoI, .ireturn) miX11_idle [] [] [] [(0, 2), (1, 0)] [(0, 2), (1, 0)] 0 [] BX11_idle := (t_sq (p1 := 14) (Γ' := [(0, 2), (1, 0)]) (t_if (pT := 11) (pF := 14) (X := [14]) (XA := []) (XB := [14]) (c_not (pT := 11) (pF := 14) (c_ne_ZJ (pT := 14) (s_of_xI (x_callV (ts := [(0, 2), (1, 0)]) ck5 rfl kX5_isDayAhead mokX5_isDayAhead w4_235 w4_236 rfl rfl rfl rfl (a_I (ts := [(0, 2)]) 1 (a_R (ts := []) 0 a_nil (s_getR ck11 2 (by decide) rfl (s_aload_n dX11_idle_0 rfl rfl) dX11_idle_1 w2_220) rfl) (s_iload_n dX11_idle_4 rfl rfl) rfl) dX11_idle_5 w4_234)) dX11_idle_8 rfl)) (t_ret (cv := cvI) (fun _ _ => rfl) (s_bipush dX11_idle_11 rfl) dX11_idle_13) (t_skip (ld_in rfl) rfl) lda_nil (lda_cons (ld_in rfl) lda_nil)) (t_ret (cv := cvI) (fun _ _ => rfl) (s_iand (s_of_xI (x_callV (ts := [(0, 2)]) ck5 rfl kX5_allCarriers mokX5_allCarriers w4_239 w5_0 rfl rfl rfl rfl (a_R (ts := []) 0 a_nil (s_getR ck11 2 (by decide) rfl (s_aload_n dX11_idle_14 rfl rfl) dX11_idle_15 w2_220) rfl) dX11_idle_18 w4_238)) (s_ixor (s_of_xI (x_callV (ts := [(0, 2), (1, 0)]) ck3 rfl kX3_outOn mokX3_outOn w5_3 w5_4 rfl rfl rfl rfl (a_I (ts := [(0, 2)]) 1 (a_R (ts := []) 0 a_nil (s_of_xR (x_callV (ts := [(0, 2)]) ck11 rfl kX11_today mokX11_today w4_81 ps2_0 rfl rfl rfl rfl (a_R (ts := []) 0 a_nil (s_aload_n dX11_idle_21 rfl rfl) rfl) dX11_idle_22 w4_79)) rfl) (s_iload_n dX11_idle_25 rfl rfl) rfl) dX11_idle_26 w5_2)) (s_iconst dX11_idle_29 rfl) dX11_idle_30) dX11_idle_31) dX11_idle_32))
noncomputable def DX11_idle : Fr → St → Option (Int32 × St) := M1 (fun f => (sI (sR fr0 0 (gR f 0)) 1 (gI f 1))) BX11_idle
theorem kX11_idle : SND yX11_idle cX11_idle 2 (some .int) 8 [(0, 2), (1, 0)] cvoI DX11_idle := snd_I (nw := 2) (by decide) rfl rfl (fun _ _ => rfl) sBX11_idle
theorem dX3_countDone_0 : decode cX3_countDone 0 = .ok (.iconst 0, 1) := by decide +kernel
theorem dX3_countDone_1 : decode cX3_countDone 1 = .ok (.istore 4, 2) := by decide +kernel
theorem dX3_countDone_3 : decode cX3_countDone 3 = .ok (.iconst 0, 1) := by decide +kernel
theorem dX3_countDone_4 : decode cX3_countDone 4 = .ok (.istore 5, 2) := by decide +kernel
theorem dX3_countDone_6 : decode cX3_countDone 6 = .ok (.iload 5, 2) := by decide +kernel
theorem dX3_countDone_8 : decode cX3_countDone 8 = .ok (.iload_n 3, 1) := by decide +kernel
theorem dX3_countDone_9 : decode cX3_countDone 9 = .ok (.if_icmp .ge 31, 3) := by decide +kernel
theorem dX3_countDone_12 : decode cX3_countDone 12 = .ok (.aload_n 1, 1) := by decide +kernel
theorem dX3_countDone_13 : decode cX3_countDone 13 = .ok (.iload 5, 2) := by decide +kernel
theorem dX3_countDone_15 : decode cX3_countDone 15 = .ok (.invokestatic 58, 3) := by decide +kernel
theorem dX3_countDone_18 : decode cX3_countDone 18 = .ok (.iload_n 2, 1) := by decide +kernel
theorem dX3_countDone_19 : decode cX3_countDone 19 = .ok (.if_icmp .ne 15, 3) := by decide +kernel
theorem dX3_countDone_22 : decode cX3_countDone 22 = .ok (.aload_n 0, 1) := by decide +kernel
theorem dX3_countDone_23 : decode cX3_countDone 23 = .ok (.iload 5, 2) := by decide +kernel
theorem dX3_countDone_25 : decode cX3_countDone 25 = .ok (.invokevirtual 75, 3) := by decide +kernel
theorem dX3_countDone_28 : decode cX3_countDone 28 = .ok (.ifCond .ne 6, 3) := by decide +kernel
theorem dX3_countDone_31 : decode cX3_countDone 31 = .ok (.iinc 4 1, 3) := by decide +kernel
theorem dX3_countDone_34 : decode cX3_countDone 34 = .ok (.iinc 5 1, 3) := by decide +kernel
theorem dX3_countDone_37 : decode cX3_countDone 37 = .ok (.goto (-31), 3) := by decide +kernel
theorem dX3_countDone_40 : decode cX3_countDone 40 = .ok (.iload 4, 2) := by decide +kernel
theorem dX3_countDone_42 : decode cX3_countDone 42 = .ok (.ireturn, 1) := by decide +kernel
theorem mokX3_countDone : MOK yX3_countDone cX3_countDone 6 (some .int) 3 := ⟨w5_13, w1_7, ⟨by decide, by decide⟩, by decide +kernel, by decide⟩
abbrev miX3_countDone : MI := (yX3_countDone.cls, cX3_countDone, 6, 3, false)
noncomputable def LX3_countDone_1 : Sm Int32 := dLoop (fun f => (sI (sI (sI (sI (sR (sR fr0 0 (gR f 0)) 1 (gR f 1)) 2 (gI f 2)) 3 (gI f 3)) 4 (gI f 4)) 5 (gI f 5))) (dCI r_lt (vI 5) (vI 3)) (dIf (dAnd (dCI r_eq (dCall DX11_cell (aI (aR aN 0 (vR 1)) 1 (vI 5))) (vI 2)) (dCZ q_eq (dCallV 3 DX3_reasonOf (aI (aR aN 0 (vR 0)) 1 (vI 5))))) (dInc 4 1) dSkip) (dInc 5 1)
theorem sLX3_countDone_1 {ΓL : Gm} {PB PK : List Nat} : SS (cvoI, .ireturn) miX3_countDone ΓL PB PK [(0, 2), (1, 2), (2, 0), (3, 0), (4, 0), (5, 0)] [(0, 2), (1, 2), (2, 0), (3, 0), (4, 0), (5, 0)] 6 [40] LX3_countDone_1 := t_loop (pT := 12) (pF := 40) (pu := 34) (PB' := []) (PK' := []) (XB := [34]) (XU := [37]) (fun _ _ => rfl) rfl (c_lt_F (pF := 40) (s_iload dX3_countDone_6 rfl) (s_iload_n dX3_countDone_8 rfl rfl) dX3_countDone_9 rfl) (t_if (pT := 31) (pF := 34) (X := [34]) (XA := [34]) (XB := [34]) (c_and (p1 := 22) (pT := 31) (pF := 34) (c_eq_F (pF := 34) (s_of_xI (x_callN (ts := [(0, 2), (1, 0)]) kX11_cell mokX11_cell w3_229 rfl rfl rfl (a_I (ts := [(0, 2)]) 1 (a_R (ts := []) 0 a_nil (s_aload_n dX3_countDone_12 rfl rfl) rfl) (s_iload dX3_countDone_13 rfl) rfl) dX3_countDone_15 nb23)) (s_iload_n dX3_countDone_18 rfl rfl) dX3_countDone_19 rfl) (c_eq_ZF (pF := 34) (s_of_xI (x_callV (ts := [(0, 2), (1, 0)]) ck3 rfl kX3_reasonOf mokX3_reasonOf w4_210 w4_211 rfl rfl rfl rfl (a_I (ts := [(0, 2)]) 1 (a_R (ts := []) 0 a_nil (s_aload_n dX3_countDone_22 rfl rfl) rfl) (s_iload dX3_countDone_23 rfl) rfl) dX3_countDone_25 w5_14)) dX3_countDone_28 rfl)) (t_iinc dX3_countDone_31 rfl rfl rfl rfl) (t_skip (ld_in rfl) rfl) (lda_cons (ld_in rfl) lda_nil) (lda_cons (ld_in rfl) lda_nil)) (t_iinc dX3_countDone_34 rfl rfl rfl rfl) (lda_cons (ld_in rfl) lda_nil) lda_nil (lda_cons (ld_goto (y := 6) dX3_countDone_37 rfl (ld_in rfl)) lda_nil) (ld_in rfl) lda_nil
noncomputable def BX3_countDone : Sm Int32 := (dSeq (dSetI 4 (cI 0)) (dSeq (dSeq (dSetI 5 (cI 0)) LX3_countDone_1) (dRet (vI 4))))
theorem sBX3_countDone : SS (cvoI, .ireturn) miX3_countDone [] [] [] [(0, 2), (1, 2), (2, 0), (3, 0)] [(0, 2), (1, 2), (2, 0), (3, 0)] 0 [] BX3_countDone := (t_sq (p1 := 3) (Γ' := [(0, 2), (1, 2), (2, 0), (3, 0), (4, 0)]) (t_istore (s_iconst dX3_countDone_0 rfl) dX3_countDone_1 rfl rfl) (t_sq (p1 := 40) (Γ' := [(0, 2), (1, 2), (2, 0), (3, 0), (4, 0)]) (t_sq (p1 := 6) (Γ' := [(0, 2), (1, 2), (2, 0), (3, 0), (4, 0), (5, 0)]) (t_istore (s_iconst dX3_countDone_3 rfl) dX3_countDone_4 rfl rfl) (tn_to (Γ' := [(0, 2), (1, 2), (2, 0), (3, 0), (4, 0), (5, 0)]) (XA := [40]) sLX3_countDone_1 (lda_cons (ld_in rfl) lda_nil) rfl)) (t_ret (cv := cvI) (fun _ _ => rfl) (s_iload dX3_countDone_40 rfl) dX3_countDone_42)))
noncomputable def DX3_countDone : Fr → St → Option (Int32 × St) := M1 (fun f => (sI (sI (sR (sR fr0 0 (gR f 0)) 1 (gR f 1)) 2 (gI f 2)) 3 (gI f 3))) BX3_countDone
theorem kX3_countDone : SND yX3_countDone cX3_countDone 6 (some .int) 3 [(0, 2), (1, 2), (2, 0), (3, 0)] cvoI DX3_countDone := snd_I (nw := 4) (by decide) rfl rfl (fun _ _ => rfl) sBX3_countDone
theorem dX11_moves_0 : decode cX11_moves 0 = .ok (.aload_n 0, 1) := by decide +kernel
theorem dX11_moves_1 : decode cX11_moves 1 = .ok (.getfield 26, 3) := by decide +kernel
theorem dX11_moves_4 : decode cX11_moves 4 = .ok (.iload_n 1, 1) := by decide +kernel
theorem dX11_moves_5 : decode cX11_moves 5 = .ok (.invokevirtual 140, 3) := by decide +kernel
theorem dX11_moves_8 : decode cX11_moves 8 = .ok (.ifCond .eq 34, 3) := by decide +kernel
theorem dX11_moves_11 : decode cX11_moves 11 = .ok (.aload_n 0, 1) := by decide +kernel
theorem dX11_moves_12 : decode cX11_moves 12 = .ok (.invokevirtual 167, 3) := by decide +kernel
theorem dX11_moves_15 : decode cX11_moves 15 = .ok (.aload_n 0, 1) := by decide +kernel
theorem dX11_moves_16 : decode cX11_moves 16 = .ok (.getfield 26, 3) := by decide +kernel
theorem dX11_moves_19 : decode cX11_moves 19 = .ok (.getfield 213, 3) := by decide +kernel
theorem dX11_moves_22 : decode cX11_moves 22 = .ok (.getfield 233, 3) := by decide +kernel
theorem dX11_moves_25 : decode cX11_moves 25 = .ok (.iload_n 1, 1) := by decide +kernel
theorem dX11_moves_26 : decode cX11_moves 26 = .ok (.aload_n 0, 1) := by decide +kernel
theorem dX11_moves_27 : decode cX11_moves 27 = .ok (.getfield 26, 3) := by decide +kernel
theorem dX11_moves_30 : decode cX11_moves 30 = .ok (.getfield 213, 3) := by decide +kernel
theorem dX11_moves_33 : decode cX11_moves 33 = .ok (.getfield 217, 3) := by decide +kernel
theorem dX11_moves_36 : decode cX11_moves 36 = .ok (.invokevirtual 236, 3) := by decide +kernel
theorem dX11_moves_39 : decode cX11_moves 39 = .ok (.goto 5, 3) := by decide +kernel
theorem dX11_moves_42 : decode cX11_moves 42 = .ok (.bipush (-2), 2) := by decide +kernel
theorem dX11_moves_44 : decode cX11_moves 44 = .ok (.ireturn, 1) := by decide +kernel
theorem mokX11_moves : MOK yX11_moves cX11_moves 2 (some .int) 1 := ⟨w5_9, w1_1, ⟨by decide, by decide⟩, by decide +kernel, by decide⟩
abbrev miX11_moves : MI := (yX11_moves.cls, cX11_moves, 2, 8, false)
noncomputable def BX11_moves : Sm Int32 := (dRet (dT (dCZ q_ne (dCallV 5 DX5_isSlate (aI (aR aN 0 (dGR 11 2 (vR 0))) 1 (vI 1)))) (dCallV 3 DX3_countDone (aI (aI (aR (aR aN 0 (dCallV 11 DX11_today (aR aN 0 (vR 0)))) 1 (dGR 1 4 (dGR 5 16 (dGR 11 2 (vR 0))))) 2 (vI 1)) 3 (dGI 1 1 (dGR 5 16 (dGR 11 2 (vR 0)))))) (cI (-2))))
theorem sBX11_moves : SS (cvoI, .ireturn) miX11_moves [] [] [] [(0, 2), (1, 0)] [(0, 2), (1, 0)] 0 [] BX11_moves := (t_ret (cv := cvI) (fun _ _ => rfl) (s_T (pT := 11) (pF := 42) (p1 := 39) (pe := 44) (c_ne_ZF (pF := 42) (s_of_xI (x_callV (ts := [(0, 2), (1, 0)]) ck5 rfl kX5_isSlate mokX5_isSlate w4_7 w4_8 rfl rfl rfl rfl (a_I (ts := [(0, 2)]) 1 (a_R (ts := []) 0 a_nil (s_getR ck11 2 (by decide) rfl (s_aload_n dX11_moves_0 rfl rfl) dX11_moves_1 w2_220) rfl) (s_iload_n dX11_moves_4 rfl rfl) rfl) dX11_moves_5 w4_6)) dX11_moves_8 rfl) (s_of_xI (x_callV (ts := [(0, 2), (1, 2), (2, 0), (3, 0)]) ck3 rfl kX3_countDone mokX3_countDone w5_11 w5_12 rfl rfl rfl rfl (a_I (ts := [(0, 2), (1, 2), (2, 0)]) 3 (a_I (ts := [(0, 2), (1, 2)]) 2 (a_R (ts := [(0, 2)]) 1 (a_R (ts := []) 0 a_nil (s_of_xR (x_callV (ts := [(0, 2)]) ck11 rfl kX11_today mokX11_today w4_81 ps2_0 rfl rfl rfl rfl (a_R (ts := []) 0 a_nil (s_aload_n dX11_moves_11 rfl rfl) rfl) dX11_moves_12 w4_79)) rfl) (s_getR ck1 4 (by decide) rfl (s_getR ck5 16 (by decide) rfl (s_getR ck11 2 (by decide) rfl (s_aload_n dX11_moves_15 rfl rfl) dX11_moves_16 w2_220) dX11_moves_19 w1_200) dX11_moves_22 w1_102) rfl) (s_iload_n dX11_moves_25 rfl rfl) rfl) (s_getI ck1 1 (by decide) rfl (s_getR ck5 16 (by decide) rfl (s_getR ck11 2 (by decide) rfl (s_aload_n dX11_moves_26 rfl rfl) dX11_moves_27 w2_220) dX11_moves_30 w1_200) dX11_moves_33 w1_94) rfl) dX11_moves_36 w5_10)) (s_bipush dX11_moves_42 rfl) (ld_goto (y := 44) dX11_moves_39 rfl (ld_in rfl))) dX11_moves_44)
noncomputable def DX11_moves : Fr → St → Option (Int32 × St) := M1 (fun f => (sI (sR fr0 0 (gR f 0)) 1 (gI f 1))) BX11_moves
theorem kX11_moves : SND yX11_moves cX11_moves 2 (some .int) 8 [(0, 2), (1, 0)] cvoI DX11_moves := snd_I (nw := 2) (by decide) rfl rfl (fun _ _ => rfl) sBX11_moves
theorem dX11_trips_0 : decode cX11_trips 0 = .ok (.aload_n 0, 1) := by decide +kernel
theorem dX11_trips_1 : decode cX11_trips 1 = .ok (.getfield 26, 3) := by decide +kernel
theorem dX11_trips_4 : decode cX11_trips 4 = .ok (.iload_n 1, 1) := by decide +kernel
theorem dX11_trips_5 : decode cX11_trips 5 = .ok (.invokevirtual 128, 3) := by decide +kernel
theorem dX11_trips_8 : decode cX11_trips 8 = .ok (.ifCond .eq 34, 3) := by decide +kernel
theorem dX11_trips_11 : decode cX11_trips 11 = .ok (.aload_n 0, 1) := by decide +kernel
theorem dX11_trips_12 : decode cX11_trips 12 = .ok (.invokevirtual 167, 3) := by decide +kernel
theorem dX11_trips_15 : decode cX11_trips 15 = .ok (.aload_n 0, 1) := by decide +kernel
theorem dX11_trips_16 : decode cX11_trips 16 = .ok (.getfield 26, 3) := by decide +kernel
theorem dX11_trips_19 : decode cX11_trips 19 = .ok (.getfield 213, 3) := by decide +kernel
theorem dX11_trips_22 : decode cX11_trips 22 = .ok (.getfield 240, 3) := by decide +kernel
theorem dX11_trips_25 : decode cX11_trips 25 = .ok (.iload_n 1, 1) := by decide +kernel
theorem dX11_trips_26 : decode cX11_trips 26 = .ok (.aload_n 0, 1) := by decide +kernel
theorem dX11_trips_27 : decode cX11_trips 27 = .ok (.getfield 26, 3) := by decide +kernel
theorem dX11_trips_30 : decode cX11_trips 30 = .ok (.getfield 213, 3) := by decide +kernel
theorem dX11_trips_33 : decode cX11_trips 33 = .ok (.getfield 217, 3) := by decide +kernel
theorem dX11_trips_36 : decode cX11_trips 36 = .ok (.invokevirtual 236, 3) := by decide +kernel
theorem dX11_trips_39 : decode cX11_trips 39 = .ok (.goto 5, 3) := by decide +kernel
theorem dX11_trips_42 : decode cX11_trips 42 = .ok (.bipush (-2), 2) := by decide +kernel
theorem dX11_trips_44 : decode cX11_trips 44 = .ok (.ireturn, 1) := by decide +kernel
theorem mokX11_trips : MOK yX11_trips cX11_trips 2 (some .int) 1 := ⟨w5_18, w1_1, ⟨by decide, by decide⟩, by decide +kernel, by decide⟩
abbrev miX11_trips : MI := (yX11_trips.cls, cX11_trips, 2, 8, false)
noncomputable def BX11_trips : Sm Int32 := (dRet (dT (dCZ q_ne (dCallV 5 DX5_isCarrier (aI (aR aN 0 (dGR 11 2 (vR 0))) 1 (vI 1)))) (dCallV 3 DX3_countDone (aI (aI (aR (aR aN 0 (dCallV 11 DX11_today (aR aN 0 (vR 0)))) 1 (dGR 1 3 (dGR 5 16 (dGR 11 2 (vR 0))))) 2 (vI 1)) 3 (dGI 1 1 (dGR 5 16 (dGR 11 2 (vR 0)))))) (cI (-2))))
theorem sBX11_trips : SS (cvoI, .ireturn) miX11_trips [] [] [] [(0, 2), (1, 0)] [(0, 2), (1, 0)] 0 [] BX11_trips := (t_ret (cv := cvI) (fun _ _ => rfl) (s_T (pT := 11) (pF := 42) (p1 := 39) (pe := 44) (c_ne_ZF (pF := 42) (s_of_xI (x_callV (ts := [(0, 2), (1, 0)]) ck5 rfl kX5_isCarrier mokX5_isCarrier w3_236 w3_237 rfl rfl rfl rfl (a_I (ts := [(0, 2)]) 1 (a_R (ts := []) 0 a_nil (s_getR ck11 2 (by decide) rfl (s_aload_n dX11_trips_0 rfl rfl) dX11_trips_1 w2_220) rfl) (s_iload_n dX11_trips_4 rfl rfl) rfl) dX11_trips_5 w3_235)) dX11_trips_8 rfl) (s_of_xI (x_callV (ts := [(0, 2), (1, 2), (2, 0), (3, 0)]) ck3 rfl kX3_countDone mokX3_countDone w5_11 w5_12 rfl rfl rfl rfl (a_I (ts := [(0, 2), (1, 2), (2, 0)]) 3 (a_I (ts := [(0, 2), (1, 2)]) 2 (a_R (ts := [(0, 2)]) 1 (a_R (ts := []) 0 a_nil (s_of_xR (x_callV (ts := [(0, 2)]) ck11 rfl kX11_today mokX11_today w4_81 ps2_0 rfl rfl rfl rfl (a_R (ts := []) 0 a_nil (s_aload_n dX11_trips_11 rfl rfl) rfl) dX11_trips_12 w4_79)) rfl) (s_getR ck1 3 (by decide) rfl (s_getR ck5 16 (by decide) rfl (s_getR ck11 2 (by decide) rfl (s_aload_n dX11_trips_15 rfl rfl) dX11_trips_16 w2_220) dX11_trips_19 w1_200) dX11_trips_22 w1_99) rfl) (s_iload_n dX11_trips_25 rfl rfl) rfl) (s_getI ck1 1 (by decide) rfl (s_getR ck5 16 (by decide) rfl (s_getR ck11 2 (by decide) rfl (s_aload_n dX11_trips_26 rfl rfl) dX11_trips_27 w2_220) dX11_trips_30 w1_200) dX11_trips_33 w1_94) rfl) dX11_trips_36 w5_10)) (s_bipush dX11_trips_42 rfl) (ld_goto (y := 44) dX11_trips_39 rfl (ld_in rfl))) dX11_trips_44)
noncomputable def DX11_trips : Fr → St → Option (Int32 × St) := M1 (fun f => (sI (sR fr0 0 (gR f 0)) 1 (gI f 1))) BX11_trips
theorem kX11_trips : SND yX11_trips cX11_trips 2 (some .int) 8 [(0, 2), (1, 0)] cvoI DX11_trips := snd_I (nw := 2) (by decide) rfl rfl (fun _ _ => rfl) sBX11_trips
theorem dX11_toil_0 : decode cX11_toil 0 = .ok (.aload_n 0, 1) := by decide +kernel
theorem dX11_toil_1 : decode cX11_toil 1 = .ok (.getfield 26, 3) := by decide +kernel
theorem dX11_toil_4 : decode cX11_toil 4 = .ok (.iload_n 1, 1) := by decide +kernel
theorem dX11_toil_5 : decode cX11_toil 5 = .ok (.invokevirtual 128, 3) := by decide +kernel
theorem dX11_toil_8 : decode cX11_toil 8 = .ok (.ifCond .ne 6, 3) := by decide +kernel
theorem dX11_toil_11 : decode cX11_toil 11 = .ok (.bipush (-2), 2) := by decide +kernel
theorem dX11_toil_13 : decode cX11_toil 13 = .ok (.ireturn, 1) := by decide +kernel
theorem dX11_toil_14 : decode cX11_toil 14 = .ok (.iconst 0, 1) := by decide +kernel
theorem dX11_toil_15 : decode cX11_toil 15 = .ok (.istore_n 2, 1) := by decide +kernel
theorem dX11_toil_16 : decode cX11_toil 16 = .ok (.iconst 0, 1) := by decide +kernel
theorem dX11_toil_17 : decode cX11_toil 17 = .ok (.istore_n 3, 1) := by decide +kernel
theorem dX11_toil_18 : decode cX11_toil 18 = .ok (.iload_n 3, 1) := by decide +kernel
theorem dX11_toil_19 : decode cX11_toil 19 = .ok (.aload_n 0, 1) := by decide +kernel
theorem dX11_toil_20 : decode cX11_toil 20 = .ok (.getfield 26, 3) := by decide +kernel
theorem dX11_toil_23 : decode cX11_toil 23 = .ok (.getfield 213, 3) := by decide +kernel
theorem dX11_toil_26 : decode cX11_toil 26 = .ok (.getfield 217, 3) := by decide +kernel
theorem dX11_toil_29 : decode cX11_toil 29 = .ok (.if_icmp .ge 49, 3) := by decide +kernel
theorem dX11_toil_32 : decode cX11_toil 32 = .ok (.aload_n 0, 1) := by decide +kernel
theorem dX11_toil_33 : decode cX11_toil 33 = .ok (.getfield 26, 3) := by decide +kernel
theorem dX11_toil_36 : decode cX11_toil 36 = .ok (.getfield 213, 3) := by decide +kernel
theorem dX11_toil_39 : decode cX11_toil 39 = .ok (.getfield 240, 3) := by decide +kernel
theorem dX11_toil_42 : decode cX11_toil 42 = .ok (.iload_n 3, 1) := by decide +kernel
theorem dX11_toil_43 : decode cX11_toil 43 = .ok (.invokestatic 124, 3) := by decide +kernel
theorem dX11_toil_46 : decode cX11_toil 46 = .ok (.iload_n 1, 1) := by decide +kernel
theorem dX11_toil_47 : decode cX11_toil 47 = .ok (.if_icmp .ne 25, 3) := by decide +kernel
theorem dX11_toil_50 : decode cX11_toil 50 = .ok (.aload_n 0, 1) := by decide +kernel
theorem dX11_toil_51 : decode cX11_toil 51 = .ok (.invokevirtual 167, 3) := by decide +kernel
theorem dX11_toil_54 : decode cX11_toil 54 = .ok (.iload_n 3, 1) := by decide +kernel
theorem dX11_toil_55 : decode cX11_toil 55 = .ok (.invokevirtual 206, 3) := by decide +kernel
theorem dX11_toil_58 : decode cX11_toil 58 = .ok (.ifCond .ne 14, 3) := by decide +kernel
theorem dX11_toil_61 : decode cX11_toil 61 = .ok (.iload_n 2, 1) := by decide +kernel
theorem dX11_toil_62 : decode cX11_toil 62 = .ok (.aload_n 0, 1) := by decide +kernel
theorem dX11_toil_63 : decode cX11_toil 63 = .ok (.invokevirtual 167, 3) := by decide +kernel
theorem dX11_toil_66 : decode cX11_toil 66 = .ok (.iload_n 3, 1) := by decide +kernel
theorem dX11_toil_67 : decode cX11_toil 67 = .ok (.invokevirtual 220, 3) := by decide +kernel
theorem dX11_toil_70 : decode cX11_toil 70 = .ok (.iadd, 1) := by decide +kernel
theorem dX11_toil_71 : decode cX11_toil 71 = .ok (.istore_n 2, 1) := by decide +kernel
theorem dX11_toil_72 : decode cX11_toil 72 = .ok (.iinc 3 1, 3) := by decide +kernel
theorem dX11_toil_75 : decode cX11_toil 75 = .ok (.goto (-57), 3) := by decide +kernel
theorem dX11_toil_78 : decode cX11_toil 78 = .ok (.iload_n 2, 1) := by decide +kernel
theorem dX11_toil_79 : decode cX11_toil 79 = .ok (.ireturn, 1) := by decide +kernel
theorem mokX11_toil : MOK yX11_toil cX11_toil 4 (some .int) 1 := ⟨w5_22, w1_1, ⟨by decide, by decide⟩, by decide +kernel, by decide⟩
abbrev miX11_toil : MI := (yX11_toil.cls, cX11_toil, 4, 8, false)
noncomputable def LX11_toil_1 : Sm Int32 := dLoop (fun f => (sI (sI (sI (sR fr0 0 (gR f 0)) 1 (gI f 1)) 2 (gI f 2)) 3 (gI f 3))) (dCI r_lt (vI 3) (dGI 1 1 (dGR 5 16 (dGR 11 2 (vR 0))))) (dIf (dAnd (dCI r_eq (dCall DX11_cell (aI (aR aN 0 (dGR 1 3 (dGR 5 16 (dGR 11 2 (vR 0))))) 1 (vI 3))) (vI 1)) (dCZ q_eq (dCallV 3 DX3_reasonOf (aI (aR aN 0 (dCallV 11 DX11_today (aR aN 0 (vR 0)))) 1 (vI 3))))) (dSetI 2 (d2 o_iadd (vI 2) (dCallV 3 DX3_loadOf (aI (aR aN 0 (dCallV 11 DX11_today (aR aN 0 (vR 0)))) 1 (vI 3))))) dSkip) (dInc 3 1)
theorem sLX11_toil_1 {ΓL : Gm} {PB PK : List Nat} : SS (cvoI, .ireturn) miX11_toil ΓL PB PK [(0, 2), (1, 0), (2, 0), (3, 0)] [(0, 2), (1, 0), (2, 0), (3, 0)] 18 [78] LX11_toil_1 := t_loop (pT := 32) (pF := 78) (pu := 72) (PB' := []) (PK' := []) (XB := [72]) (XU := [75]) (fun _ _ => rfl) rfl (c_lt_F (pF := 78) (s_iload_n dX11_toil_18 rfl rfl) (s_getI ck1 1 (by decide) rfl (s_getR ck5 16 (by decide) rfl (s_getR ck11 2 (by decide) rfl (s_aload_n dX11_toil_19 rfl rfl) dX11_toil_20 w2_220) dX11_toil_23 w1_200) dX11_toil_26 w1_94) dX11_toil_29 rfl) (t_if (pT := 61) (pF := 72) (X := [72]) (XA := [72]) (XB := [72]) (c_and (p1 := 50) (pT := 61) (pF := 72) (c_eq_F (pF := 72) (s_of_xI (x_call (ts := [(0, 2), (1, 0)]) kX11_cell mokX11_cell w3_229 rfl rfl rfl (a_I (ts := [(0, 2)]) 1 (a_R (ts := []) 0 a_nil (s_getR ck1 3 (by decide) rfl (s_getR ck5 16 (by decide) rfl (s_getR ck11 2 (by decide) rfl (s_aload_n dX11_toil_32 rfl rfl) dX11_toil_33 w2_220) dX11_toil_36 w1_200) dX11_toil_39 w1_99) rfl) (s_iload_n dX11_toil_42 rfl rfl) rfl) dX11_toil_43 w3_228)) (s_iload_n dX11_toil_46 rfl rfl) dX11_toil_47 rfl) (c_eq_ZF (pF := 72) (s_of_xI (x_callV (ts := [(0, 2), (1, 0)]) ck3 rfl kX3_reasonOf mokX3_reasonOf w4_210 w4_211 rfl rfl rfl rfl (a_I (ts := [(0, 2)]) 1 (a_R (ts := []) 0 a_nil (s_of_xR (x_callV (ts := [(0, 2)]) ck11 rfl kX11_today mokX11_today w4_81 ps2_0 rfl rfl rfl rfl (a_R (ts := []) 0 a_nil (s_aload_n dX11_toil_50 rfl rfl) rfl) dX11_toil_51 w4_79)) rfl) (s_iload_n dX11_toil_54 rfl rfl) rfl) dX11_toil_55 w4_209)) dX11_toil_58 rfl)) (t_istore_n (s_iadd (s_iload_n dX11_toil_61 rfl rfl) (s_of_xI (x_callV (ts := [(0, 2), (1, 0)]) ck3 rfl kX3_loadOf mokX3_loadOf w4_227 w4_228 rfl rfl rfl rfl (a_I (ts := [(0, 2)]) 1 (a_R (ts := []) 0 a_nil (s_of_xR (x_callV (ts := [(0, 2)]) ck11 rfl kX11_today mokX11_today w4_81 ps2_0 rfl rfl rfl rfl (a_R (ts := []) 0 a_nil (s_aload_n dX11_toil_62 rfl rfl) rfl) dX11_toil_63 w4_79)) rfl) (s_iload_n dX11_toil_66 rfl rfl) rfl) dX11_toil_67 w4_226)) dX11_toil_70) dX11_toil_71 rfl rfl rfl) (t_skip (ld_in rfl) rfl) (lda_cons (ld_in rfl) lda_nil) (lda_cons (ld_in rfl) lda_nil)) (t_iinc dX11_toil_72 rfl rfl rfl rfl) (lda_cons (ld_in rfl) lda_nil) lda_nil (lda_cons (ld_goto (y := 18) dX11_toil_75 rfl (ld_in rfl)) lda_nil) (ld_in rfl) lda_nil
noncomputable def BX11_toil : Sm Int32 := (dSeq (dIf (dNot (dCZ q_ne (dCallV 5 DX5_isCarrier (aI (aR aN 0 (dGR 11 2 (vR 0))) 1 (vI 1))))) (dRet (cI (-2))) dSkip) (dSeq (dSetI 2 (cI 0)) (dSeq (dSeq (dSetI 3 (cI 0)) LX11_toil_1) (dRet (vI 2)))))
theorem sBX11_toil : SS (cvoI, .ireturn) miX11_toil [] [] [] [(0, 2), (1, 0)] [(0, 2), (1, 0)] 0 [] BX11_toil := (t_sq (p1 := 14) (Γ' := [(0, 2), (1, 0)]) (t_if (pT := 11) (pF := 14) (X := [14]) (XA := []) (XB := [14]) (c_not (pT := 11) (pF := 14) (c_ne_ZJ (pT := 14) (s_of_xI (x_callV (ts := [(0, 2), (1, 0)]) ck5 rfl kX5_isCarrier mokX5_isCarrier w3_236 w3_237 rfl rfl rfl rfl (a_I (ts := [(0, 2)]) 1 (a_R (ts := []) 0 a_nil (s_getR ck11 2 (by decide) rfl (s_aload_n dX11_toil_0 rfl rfl) dX11_toil_1 w2_220) rfl) (s_iload_n dX11_toil_4 rfl rfl) rfl) dX11_toil_5 w3_235)) dX11_toil_8 rfl)) (t_ret (cv := cvI) (fun _ _ => rfl) (s_bipush dX11_toil_11 rfl) dX11_toil_13) (t_skip (ld_in rfl) rfl) lda_nil (lda_cons (ld_in rfl) lda_nil)) (t_sq (p1 := 16) (Γ' := [(0, 2), (1, 0), (2, 0)]) (t_istore_n (s_iconst dX11_toil_14 rfl) dX11_toil_15 rfl rfl rfl) (t_sq (p1 := 78) (Γ' := [(0, 2), (1, 0), (2, 0)]) (t_sq (p1 := 18) (Γ' := [(0, 2), (1, 0), (2, 0), (3, 0)]) (t_istore_n (s_iconst dX11_toil_16 rfl) dX11_toil_17 rfl rfl rfl) (tn_to (Γ' := [(0, 2), (1, 0), (2, 0), (3, 0)]) (XA := [78]) sLX11_toil_1 (lda_cons (ld_in rfl) lda_nil) rfl)) (t_ret (cv := cvI) (fun _ _ => rfl) (s_iload_n dX11_toil_78 rfl rfl) dX11_toil_79))))
noncomputable def DX11_toil : Fr → St → Option (Int32 × St) := M1 (fun f => (sI (sR fr0 0 (gR f 0)) 1 (gI f 1))) BX11_toil
theorem kX11_toil : SND yX11_toil cX11_toil 4 (some .int) 8 [(0, 2), (1, 0)] cvoI DX11_toil := snd_I (nw := 2) (by decide) rfl rfl (fun _ _ => rfl) sBX11_toil
theorem dJ6_bitCount_0f7a4_0 : decode cJ6_bitCount_0f7a4 0 = .ok (.iload_n 0, 1) := by decide +kernel
theorem dJ6_bitCount_0f7a4_1 : decode cJ6_bitCount_0f7a4 1 = .ok (.iload_n 0, 1) := by decide +kernel
theorem dJ6_bitCount_0f7a4_2 : decode cJ6_bitCount_0f7a4 2 = .ok (.iconst 1, 1) := by decide +kernel
theorem dJ6_bitCount_0f7a4_3 : decode cJ6_bitCount_0f7a4 3 = .ok (.iushr, 1) := by decide +kernel
theorem dJ6_bitCount_0f7a4_4 : decode cJ6_bitCount_0f7a4 4 = .ok (.ldc_w 265, 3) := by decide +kernel
theorem dJ6_bitCount_0f7a4_7 : decode cJ6_bitCount_0f7a4 7 = .ok (.iand, 1) := by decide +kernel
theorem dJ6_bitCount_0f7a4_8 : decode cJ6_bitCount_0f7a4 8 = .ok (.isub, 1) := by decide +kernel
theorem dJ6_bitCount_0f7a4_9 : decode cJ6_bitCount_0f7a4 9 = .ok (.istore_n 0, 1) := by decide +kernel
theorem dJ6_bitCount_0f7a4_10 : decode cJ6_bitCount_0f7a4 10 = .ok (.iload_n 0, 1) := by decide +kernel
theorem dJ6_bitCount_0f7a4_11 : decode cJ6_bitCount_0f7a4 11 = .ok (.ldc_w 266, 3) := by decide +kernel
theorem dJ6_bitCount_0f7a4_14 : decode cJ6_bitCount_0f7a4 14 = .ok (.iand, 1) := by decide +kernel
theorem dJ6_bitCount_0f7a4_15 : decode cJ6_bitCount_0f7a4 15 = .ok (.iload_n 0, 1) := by decide +kernel
theorem dJ6_bitCount_0f7a4_16 : decode cJ6_bitCount_0f7a4 16 = .ok (.iconst 2, 1) := by decide +kernel
theorem dJ6_bitCount_0f7a4_17 : decode cJ6_bitCount_0f7a4 17 = .ok (.iushr, 1) := by decide +kernel
theorem dJ6_bitCount_0f7a4_18 : decode cJ6_bitCount_0f7a4 18 = .ok (.ldc_w 266, 3) := by decide +kernel
theorem dJ6_bitCount_0f7a4_21 : decode cJ6_bitCount_0f7a4 21 = .ok (.iand, 1) := by decide +kernel
theorem dJ6_bitCount_0f7a4_22 : decode cJ6_bitCount_0f7a4 22 = .ok (.iadd, 1) := by decide +kernel
theorem dJ6_bitCount_0f7a4_23 : decode cJ6_bitCount_0f7a4 23 = .ok (.istore_n 0, 1) := by decide +kernel
theorem dJ6_bitCount_0f7a4_24 : decode cJ6_bitCount_0f7a4 24 = .ok (.iload_n 0, 1) := by decide +kernel
theorem dJ6_bitCount_0f7a4_25 : decode cJ6_bitCount_0f7a4 25 = .ok (.iload_n 0, 1) := by decide +kernel
theorem dJ6_bitCount_0f7a4_26 : decode cJ6_bitCount_0f7a4 26 = .ok (.iconst 4, 1) := by decide +kernel
theorem dJ6_bitCount_0f7a4_27 : decode cJ6_bitCount_0f7a4 27 = .ok (.iushr, 1) := by decide +kernel
theorem dJ6_bitCount_0f7a4_28 : decode cJ6_bitCount_0f7a4 28 = .ok (.iadd, 1) := by decide +kernel
theorem dJ6_bitCount_0f7a4_29 : decode cJ6_bitCount_0f7a4 29 = .ok (.ldc_w 267, 3) := by decide +kernel
theorem dJ6_bitCount_0f7a4_32 : decode cJ6_bitCount_0f7a4 32 = .ok (.iand, 1) := by decide +kernel
theorem dJ6_bitCount_0f7a4_33 : decode cJ6_bitCount_0f7a4 33 = .ok (.istore_n 0, 1) := by decide +kernel
theorem dJ6_bitCount_0f7a4_34 : decode cJ6_bitCount_0f7a4 34 = .ok (.iload_n 0, 1) := by decide +kernel
theorem dJ6_bitCount_0f7a4_35 : decode cJ6_bitCount_0f7a4 35 = .ok (.iload_n 0, 1) := by decide +kernel
theorem dJ6_bitCount_0f7a4_36 : decode cJ6_bitCount_0f7a4 36 = .ok (.bipush 8, 2) := by decide +kernel
theorem dJ6_bitCount_0f7a4_38 : decode cJ6_bitCount_0f7a4 38 = .ok (.iushr, 1) := by decide +kernel
theorem dJ6_bitCount_0f7a4_39 : decode cJ6_bitCount_0f7a4 39 = .ok (.iadd, 1) := by decide +kernel
theorem dJ6_bitCount_0f7a4_40 : decode cJ6_bitCount_0f7a4 40 = .ok (.istore_n 0, 1) := by decide +kernel
theorem dJ6_bitCount_0f7a4_41 : decode cJ6_bitCount_0f7a4 41 = .ok (.iload_n 0, 1) := by decide +kernel
theorem dJ6_bitCount_0f7a4_42 : decode cJ6_bitCount_0f7a4 42 = .ok (.iload_n 0, 1) := by decide +kernel
theorem dJ6_bitCount_0f7a4_43 : decode cJ6_bitCount_0f7a4 43 = .ok (.bipush 16, 2) := by decide +kernel
theorem dJ6_bitCount_0f7a4_45 : decode cJ6_bitCount_0f7a4 45 = .ok (.iushr, 1) := by decide +kernel
theorem dJ6_bitCount_0f7a4_46 : decode cJ6_bitCount_0f7a4 46 = .ok (.iadd, 1) := by decide +kernel
theorem dJ6_bitCount_0f7a4_47 : decode cJ6_bitCount_0f7a4 47 = .ok (.istore_n 0, 1) := by decide +kernel
theorem dJ6_bitCount_0f7a4_48 : decode cJ6_bitCount_0f7a4 48 = .ok (.iload_n 0, 1) := by decide +kernel
theorem dJ6_bitCount_0f7a4_49 : decode cJ6_bitCount_0f7a4 49 = .ok (.bipush 63, 2) := by decide +kernel
theorem dJ6_bitCount_0f7a4_51 : decode cJ6_bitCount_0f7a4 51 = .ok (.iand, 1) := by decide +kernel
theorem dJ6_bitCount_0f7a4_52 : decode cJ6_bitCount_0f7a4 52 = .ok (.ireturn, 1) := by decide +kernel
theorem mokJ6_bitCount_0f7a4 : MOK yJ6_bitCount_0f7a4 cJ6_bitCount_0f7a4 1 (some .int) 1 := ⟨w5_29, w1_21, ⟨by decide, by decide⟩, by decide +kernel, by decide⟩
abbrev miJ6_bitCount_0f7a4 : MI := (yJ6_bitCount_0f7a4.cls, cJ6_bitCount_0f7a4, 1, 1, false)
noncomputable def BJ6_bitCount_0f7a4 : Sm Int32 := (dSeq (dSetI 0 (d2 o_isub (vI 0) (d2 o_iand (d2 o_iushr (vI 0) (cI 1)) (cI 1431655765)))) (dSeq (dSetI 0 (d2 o_iadd (d2 o_iand (vI 0) (cI 858993459)) (d2 o_iand (d2 o_iushr (vI 0) (cI 2)) (cI 858993459)))) (dSeq (dSetI 0 (d2 o_iand (d2 o_iadd (vI 0) (d2 o_iushr (vI 0) (cI 4))) (cI 252645135))) (dSeq (dSetI 0 (d2 o_iadd (vI 0) (d2 o_iushr (vI 0) (cI 8)))) (dSeq (dSetI 0 (d2 o_iadd (vI 0) (d2 o_iushr (vI 0) (cI 16)))) (dRet (d2 o_iand (vI 0) (cI 63))))))))
theorem sBJ6_bitCount_0f7a4 : SS (cvoI, .ireturn) miJ6_bitCount_0f7a4 [] [] [] [(0, 0)] [(0, 0)] 0 [] BJ6_bitCount_0f7a4 := (t_sq (p1 := 10) (Γ' := [(0, 0)]) (t_istore_n (s_isub (s_iload_n dJ6_bitCount_0f7a4_0 rfl rfl) (s_iand (s_iushr (s_iload_n dJ6_bitCount_0f7a4_1 rfl rfl) (s_iconst dJ6_bitCount_0f7a4_2 rfl) dJ6_bitCount_0f7a4_3) (s_ldcw dJ6_bitCount_0f7a4_4 w5_30) dJ6_bitCount_0f7a4_7) dJ6_bitCount_0f7a4_8) dJ6_bitCount_0f7a4_9 rfl rfl rfl) (t_sq (p1 := 24) (Γ' := [(0, 0)]) (t_istore_n (s_iadd (s_iand (s_iload_n dJ6_bitCount_0f7a4_10 rfl rfl) (s_ldcw dJ6_bitCount_0f7a4_11 w5_31) dJ6_bitCount_0f7a4_14) (s_iand (s_iushr (s_iload_n dJ6_bitCount_0f7a4_15 rfl rfl) (s_iconst dJ6_bitCount_0f7a4_16 rfl) dJ6_bitCount_0f7a4_17) (s_ldcw dJ6_bitCount_0f7a4_18 w5_31) dJ6_bitCount_0f7a4_21) dJ6_bitCount_0f7a4_22) dJ6_bitCount_0f7a4_23 rfl rfl rfl) (t_sq (p1 := 34) (Γ' := [(0, 0)]) (t_istore_n (s_iand (s_iadd (s_iload_n dJ6_bitCount_0f7a4_24 rfl rfl) (s_iushr (s_iload_n dJ6_bitCount_0f7a4_25 rfl rfl) (s_iconst dJ6_bitCount_0f7a4_26 rfl) dJ6_bitCount_0f7a4_27) dJ6_bitCount_0f7a4_28) (s_ldcw dJ6_bitCount_0f7a4_29 w5_32) dJ6_bitCount_0f7a4_32) dJ6_bitCount_0f7a4_33 rfl rfl rfl) (t_sq (p1 := 41) (Γ' := [(0, 0)]) (t_istore_n (s_iadd (s_iload_n dJ6_bitCount_0f7a4_34 rfl rfl) (s_iushr (s_iload_n dJ6_bitCount_0f7a4_35 rfl rfl) (s_bipush dJ6_bitCount_0f7a4_36 rfl) dJ6_bitCount_0f7a4_38) dJ6_bitCount_0f7a4_39) dJ6_bitCount_0f7a4_40 rfl rfl rfl) (t_sq (p1 := 48) (Γ' := [(0, 0)]) (t_istore_n (s_iadd (s_iload_n dJ6_bitCount_0f7a4_41 rfl rfl) (s_iushr (s_iload_n dJ6_bitCount_0f7a4_42 rfl rfl) (s_bipush dJ6_bitCount_0f7a4_43 rfl) dJ6_bitCount_0f7a4_45) dJ6_bitCount_0f7a4_46) dJ6_bitCount_0f7a4_47 rfl rfl rfl) (t_ret (cv := cvI) (fun _ _ => rfl) (s_iand (s_iload_n dJ6_bitCount_0f7a4_48 rfl rfl) (s_bipush dJ6_bitCount_0f7a4_49 rfl) dJ6_bitCount_0f7a4_51) dJ6_bitCount_0f7a4_52))))))
noncomputable def DJ6_bitCount_0f7a4 : Fr → St → Option (Int32 × St) := M1 (fun f => (sI fr0 0 (gI f 0))) BJ6_bitCount_0f7a4
theorem kJ6_bitCount_0f7a4 : SND yJ6_bitCount_0f7a4 cJ6_bitCount_0f7a4 1 (some .int) 1 [(0, 0)] cvoI DJ6_bitCount_0f7a4 := snd_I (nw := 1) (by decide) rfl rfl (fun _ _ => rfl) sBJ6_bitCount_0f7a4
theorem dX11_rubbed_0 : decode cX11_rubbed 0 = .ok (.aload_n 0, 1) := by decide +kernel
theorem dX11_rubbed_1 : decode cX11_rubbed 1 = .ok (.getfield 26, 3) := by decide +kernel
theorem dX11_rubbed_4 : decode cX11_rubbed 4 = .ok (.iload_n 1, 1) := by decide +kernel
theorem dX11_rubbed_5 : decode cX11_rubbed 5 = .ok (.invokevirtual 140, 3) := by decide +kernel
theorem dX11_rubbed_8 : decode cX11_rubbed 8 = .ok (.ifCond .ne 6, 3) := by decide +kernel
theorem dX11_rubbed_11 : decode cX11_rubbed 11 = .ok (.bipush (-2), 2) := by decide +kernel
theorem dX11_rubbed_13 : decode cX11_rubbed 13 = .ok (.ireturn, 1) := by decide +kernel
theorem dX11_rubbed_14 : decode cX11_rubbed 14 = .ok (.aload_n 0, 1) := by decide +kernel
theorem dX11_rubbed_15 : decode cX11_rubbed 15 = .ok (.getfield 26, 3) := by decide +kernel
theorem dX11_rubbed_18 : decode cX11_rubbed 18 = .ok (.iload_n 1, 1) := by decide +kernel
theorem dX11_rubbed_19 : decode cX11_rubbed 19 = .ok (.invokevirtual 196, 3) := by decide +kernel
theorem dX11_rubbed_22 : decode cX11_rubbed 22 = .ok (.aload_n 0, 1) := by decide +kernel
theorem dX11_rubbed_23 : decode cX11_rubbed 23 = .ok (.invokevirtual 167, 3) := by decide +kernel
theorem dX11_rubbed_26 : decode cX11_rubbed 26 = .ok (.iload_n 1, 1) := by decide +kernel
theorem dX11_rubbed_27 : decode cX11_rubbed 27 = .ok (.aload_n 0, 1) := by decide +kernel
theorem dX11_rubbed_28 : decode cX11_rubbed 28 = .ok (.getfield 26, 3) := by decide +kernel
theorem dX11_rubbed_31 : decode cX11_rubbed 31 = .ok (.getfield 200, 3) := by decide +kernel
theorem dX11_rubbed_34 : decode cX11_rubbed 34 = .ok (.invokevirtual 180, 3) := by decide +kernel
theorem dX11_rubbed_37 : decode cX11_rubbed 37 = .ok (.iconst (-1), 1) := by decide +kernel
theorem dX11_rubbed_38 : decode cX11_rubbed 38 = .ok (.ixor, 1) := by decide +kernel
theorem dX11_rubbed_39 : decode cX11_rubbed 39 = .ok (.iand, 1) := by decide +kernel
theorem dX11_rubbed_40 : decode cX11_rubbed 40 = .ok (.invokestatic 243, 3) := by decide +kernel
theorem dX11_rubbed_43 : decode cX11_rubbed 43 = .ok (.ireturn, 1) := by decide +kernel
theorem mokX11_rubbed : MOK yX11_rubbed cX11_rubbed 2 (some .int) 1 := ⟨w5_26, w1_1, ⟨by decide, by decide⟩, by decide +kernel, by decide⟩
abbrev miX11_rubbed : MI := (yX11_rubbed.cls, cX11_rubbed, 2, 8, false)
noncomputable def BX11_rubbed : Sm Int32 := (dSeq (dIf (dNot (dCZ q_ne (dCallV 5 DX5_isSlate (aI (aR aN 0 (dGR 11 2 (vR 0))) 1 (vI 1))))) (dRet (cI (-2))) dSkip) (dRet (dCall DJ6_bitCount_0f7a4 (aI aN 0 (d2 o_iand (dCallV 5 DX5_allWords (aI (aR aN 0 (dGR 11 2 (vR 0))) 1 (vI 1))) (d2 o_ixor (dCallV 3 DX3_leftOn (aI (aI (aR aN 0 (dCallV 11 DX11_today (aR aN 0 (vR 0)))) 1 (vI 1)) 2 (dGI 5 1 (dGR 11 2 (vR 0))))) (cI (-1))))))))
theorem sBX11_rubbed : SS (cvoI, .ireturn) miX11_rubbed [] [] [] [(0, 2), (1, 0)] [(0, 2), (1, 0)] 0 [] BX11_rubbed := (t_sq (p1 := 14) (Γ' := [(0, 2), (1, 0)]) (t_if (pT := 11) (pF := 14) (X := [14]) (XA := []) (XB := [14]) (c_not (pT := 11) (pF := 14) (c_ne_ZJ (pT := 14) (s_of_xI (x_callV (ts := [(0, 2), (1, 0)]) ck5 rfl kX5_isSlate mokX5_isSlate w4_7 w4_8 rfl rfl rfl rfl (a_I (ts := [(0, 2)]) 1 (a_R (ts := []) 0 a_nil (s_getR ck11 2 (by decide) rfl (s_aload_n dX11_rubbed_0 rfl rfl) dX11_rubbed_1 w2_220) rfl) (s_iload_n dX11_rubbed_4 rfl rfl) rfl) dX11_rubbed_5 w4_6)) dX11_rubbed_8 rfl)) (t_ret (cv := cvI) (fun _ _ => rfl) (s_bipush dX11_rubbed_11 rfl) dX11_rubbed_13) (t_skip (ld_in rfl) rfl) lda_nil (lda_cons (ld_in rfl) lda_nil)) (t_ret (cv := cvI) (fun _ _ => rfl) (s_of_xI (x_call (ts := [(0, 0)]) kJ6_bitCount_0f7a4 mokJ6_bitCount_0f7a4 w5_28 rfl rfl rfl (a_I (ts := []) 0 a_nil (s_iand (s_of_xI (x_callV (ts := [(0, 2), (1, 0)]) ck5 rfl kX5_allWords mokX5_allWords w4_103 w4_104 rfl rfl rfl rfl (a_I (ts := [(0, 2)]) 1 (a_R (ts := []) 0 a_nil (s_getR ck11 2 (by decide) rfl (s_aload_n dX11_rubbed_14 rfl rfl) dX11_rubbed_15 w2_220) rfl) (s_iload_n dX11_rubbed_18 rfl rfl) rfl) dX11_rubbed_19 w4_196)) (s_ixor (s_of_xI (x_callV (ts := [(0, 2), (1, 0), (2, 0)]) ck3 rfl kX3_leftOn mokX3_leftOn w4_167 w4_168 rfl rfl rfl rfl (a_I (ts := [(0, 2), (1, 0)]) 2 (a_I (ts := [(0, 2)]) 1 (a_R (ts := []) 0 a_nil (s_of_xR (x_callV (ts := [(0, 2)]) ck11 rfl kX11_today mokX11_today w4_81 ps2_0 rfl rfl rfl rfl (a_R (ts := []) 0 a_nil (s_aload_n dX11_rubbed_22 rfl rfl) rfl) dX11_rubbed_23 w4_79)) rfl) (s_iload_n dX11_rubbed_26 rfl rfl) rfl) (s_getI ck5 1 (by decide) rfl (s_getR ck11 2 (by decide) rfl (s_aload_n dX11_rubbed_27 rfl rfl) dX11_rubbed_28 w2_220) dX11_rubbed_31 w1_139) rfl) dX11_rubbed_34 w4_166)) (s_iconst dX11_rubbed_37 rfl) dX11_rubbed_38) dX11_rubbed_39) rfl) dX11_rubbed_40 w5_27)) dX11_rubbed_43))
noncomputable def DX11_rubbed : Fr → St → Option (Int32 × St) := M1 (fun f => (sI (sR fr0 0 (gR f 0)) 1 (gI f 1))) BX11_rubbed
theorem kX11_rubbed : SND yX11_rubbed cX11_rubbed 2 (some .int) 8 [(0, 2), (1, 0)] cvoI DX11_rubbed := snd_I (nw := 2) (by decide) rfl rfl (fun _ _ => rfl) sBX11_rubbed
theorem dX11_gossip_0 : decode cX11_gossip 0 = .ok (.aload_n 0, 1) := by decide +kernel
theorem dX11_gossip_1 : decode cX11_gossip 1 = .ok (.getfield 26, 3) := by decide +kernel
theorem dX11_gossip_4 : decode cX11_gossip 4 = .ok (.invokevirtual 209, 3) := by decide +kernel
theorem dX11_gossip_7 : decode cX11_gossip 7 = .ok (.ifCond .ne 6, 3) := by decide +kernel
theorem dX11_gossip_10 : decode cX11_gossip 10 = .ok (.bipush (-2), 2) := by decide +kernel
theorem dX11_gossip_12 : decode cX11_gossip 12 = .ok (.ireturn, 1) := by decide +kernel
theorem dX11_gossip_13 : decode cX11_gossip 13 = .ok (.aload_n 0, 1) := by decide +kernel
theorem dX11_gossip_14 : decode cX11_gossip 14 = .ok (.invokevirtual 167, 3) := by decide +kernel
theorem dX11_gossip_17 : decode cX11_gossip 17 = .ok (.astore_n 1, 1) := by decide +kernel
theorem dX11_gossip_18 : decode cX11_gossip 18 = .ok (.iconst (-1), 1) := by decide +kernel
theorem dX11_gossip_19 : decode cX11_gossip 19 = .ok (.istore_n 2, 1) := by decide +kernel
theorem dX11_gossip_20 : decode cX11_gossip 20 = .ok (.iconst (-1), 1) := by decide +kernel
theorem dX11_gossip_21 : decode cX11_gossip 21 = .ok (.istore_n 3, 1) := by decide +kernel
theorem dX11_gossip_22 : decode cX11_gossip 22 = .ok (.iconst 0, 1) := by decide +kernel
theorem dX11_gossip_23 : decode cX11_gossip 23 = .ok (.istore 4, 2) := by decide +kernel
theorem dX11_gossip_25 : decode cX11_gossip 25 = .ok (.iload 4, 2) := by decide +kernel
theorem dX11_gossip_27 : decode cX11_gossip 27 = .ok (.aload_n 0, 1) := by decide +kernel
theorem dX11_gossip_28 : decode cX11_gossip 28 = .ok (.getfield 26, 3) := by decide +kernel
theorem dX11_gossip_31 : decode cX11_gossip 31 = .ok (.getfield 193, 3) := by decide +kernel
theorem dX11_gossip_34 : decode cX11_gossip 34 = .ok (.if_icmp .ge 68, 3) := by decide +kernel
theorem dX11_gossip_37 : decode cX11_gossip 37 = .ok (.iconst 0, 1) := by decide +kernel
theorem dX11_gossip_38 : decode cX11_gossip 38 = .ok (.istore 5, 2) := by decide +kernel
theorem dX11_gossip_40 : decode cX11_gossip 40 = .ok (.iconst 0, 1) := by decide +kernel
theorem dX11_gossip_41 : decode cX11_gossip 41 = .ok (.istore 6, 2) := by decide +kernel
theorem dX11_gossip_43 : decode cX11_gossip 43 = .ok (.iload 6, 2) := by decide +kernel
theorem dX11_gossip_45 : decode cX11_gossip 45 = .ok (.aload_n 0, 1) := by decide +kernel
theorem dX11_gossip_46 : decode cX11_gossip 46 = .ok (.getfield 26, 3) := by decide +kernel
theorem dX11_gossip_49 : decode cX11_gossip 49 = .ok (.getfield 248, 3) := by decide +kernel
theorem dX11_gossip_52 : decode cX11_gossip 52 = .ok (.if_icmp .ge 32, 3) := by decide +kernel
theorem dX11_gossip_55 : decode cX11_gossip 55 = .ok (.iload 5, 2) := by decide +kernel
theorem dX11_gossip_57 : decode cX11_gossip 57 = .ok (.aload_n 1, 1) := by decide +kernel
theorem dX11_gossip_58 : decode cX11_gossip 58 = .ok (.iload 4, 2) := by decide +kernel
theorem dX11_gossip_60 : decode cX11_gossip 60 = .ok (.iload 6, 2) := by decide +kernel
theorem dX11_gossip_62 : decode cX11_gossip 62 = .ok (.aload_n 0, 1) := by decide +kernel
theorem dX11_gossip_63 : decode cX11_gossip 63 = .ok (.getfield 26, 3) := by decide +kernel
theorem dX11_gossip_66 : decode cX11_gossip 66 = .ok (.getfield 200, 3) := by decide +kernel
theorem dX11_gossip_69 : decode cX11_gossip 69 = .ok (.invokevirtual 186, 3) := by decide +kernel
theorem dX11_gossip_72 : decode cX11_gossip 72 = .ok (.invokestatic 243, 3) := by decide +kernel
theorem dX11_gossip_75 : decode cX11_gossip 75 = .ok (.iadd, 1) := by decide +kernel
theorem dX11_gossip_76 : decode cX11_gossip 76 = .ok (.istore 5, 2) := by decide +kernel
theorem dX11_gossip_78 : decode cX11_gossip 78 = .ok (.iinc 6 1, 3) := by decide +kernel
theorem dX11_gossip_81 : decode cX11_gossip 81 = .ok (.goto (-38), 3) := by decide +kernel
theorem dX11_gossip_84 : decode cX11_gossip 84 = .ok (.iload 5, 2) := by decide +kernel
theorem dX11_gossip_86 : decode cX11_gossip 86 = .ok (.iload_n 3, 1) := by decide +kernel
theorem dX11_gossip_87 : decode cX11_gossip 87 = .ok (.if_icmp .le 9, 3) := by decide +kernel
theorem dX11_gossip_90 : decode cX11_gossip 90 = .ok (.iload 5, 2) := by decide +kernel
theorem dX11_gossip_92 : decode cX11_gossip 92 = .ok (.istore_n 3, 1) := by decide +kernel
theorem dX11_gossip_93 : decode cX11_gossip 93 = .ok (.iload 4, 2) := by decide +kernel
theorem dX11_gossip_95 : decode cX11_gossip 95 = .ok (.istore_n 2, 1) := by decide +kernel
theorem dX11_gossip_96 : decode cX11_gossip 96 = .ok (.iinc 4 1, 3) := by decide +kernel
theorem dX11_gossip_99 : decode cX11_gossip 99 = .ok (.goto (-74), 3) := by decide +kernel
theorem dX11_gossip_102 : decode cX11_gossip 102 = .ok (.iload_n 2, 1) := by decide +kernel
theorem dX11_gossip_103 : decode cX11_gossip 103 = .ok (.ireturn, 1) := by decide +kernel
theorem mokX11_gossip : MOK yX11_gossip cX11_gossip 7 (some .int) 0 := ⟨w5_36, w1_1, ⟨by decide, by decide⟩, by decide +kernel, by decide⟩
abbrev miX11_gossip : MI := (yX11_gossip.cls, cX11_gossip, 7, 8, false)
noncomputable def LX11_gossip_1 : Sm Int32 := dLoop (fun f => (sI (sI (sI (sI (sI (sR (sR fr0 0 (gR f 0)) 1 (gR f 1)) 2 (gI f 2)) 3 (gI f 3)) 4 (gI f 4)) 5 (gI f 5)) 6 (gI f 6))) (dCI r_lt (vI 6) (dGI 5 7 (dGR 11 2 (vR 0)))) (dSetI 5 (d2 o_iadd (vI 5) (dCall DJ6_bitCount_0f7a4 (aI aN 0 (dCallV 3 DX3_knownOn (aI (aI (aI (aR aN 0 (vR 1)) 1 (vI 4)) 2 (vI 6)) 3 (dGI 5 1 (dGR 11 2 (vR 0))))))))) (dInc 6 1)
theorem sLX11_gossip_1 {ΓL : Gm} {PB PK : List Nat} : SS (cvoI, .ireturn) miX11_gossip ΓL PB PK [(0, 2), (1, 2), (2, 0), (3, 0), (4, 0), (5, 0), (6, 0)] [(0, 2), (1, 2), (2, 0), (3, 0), (4, 0), (5, 0), (6, 0)] 43 [84] LX11_gossip_1 := t_loop (pT := 55) (pF := 84) (pu := 78) (PB' := []) (PK' := []) (XB := [78]) (XU := [81]) (fun _ _ => rfl) rfl (c_lt_F (pF := 84) (s_iload dX11_gossip_43 rfl) (s_getI ck5 7 (by decide) rfl (s_getR ck11 2 (by decide) rfl (s_aload_n dX11_gossip_45 rfl rfl) dX11_gossip_46 w2_220) dX11_gossip_49 w1_169) dX11_gossip_52 rfl) (t_istore (s_iadd (s_iload dX11_gossip_55 rfl) (s_of_xI (x_call (ts := [(0, 0)]) kJ6_bitCount_0f7a4 mokJ6_bitCount_0f7a4 w5_28 rfl rfl rfl (a_I (ts := []) 0 a_nil (s_of_xI (x_callV (ts := [(0, 2), (1, 0), (2, 0), (3, 0)]) ck3 rfl kX3_knownOn mokX3_knownOn w4_180 w4_181 rfl rfl rfl rfl (a_I (ts := [(0, 2), (1, 0), (2, 0)]) 3 (a_I (ts := [(0, 2), (1, 0)]) 2 (a_I (ts := [(0, 2)]) 1 (a_R (ts := []) 0 a_nil (s_aload_n dX11_gossip_57 rfl rfl) rfl) (s_iload dX11_gossip_58 rfl) rfl) (s_iload dX11_gossip_60 rfl) rfl) (s_getI ck5 1 (by decide) rfl (s_getR ck11 2 (by decide) rfl (s_aload_n dX11_gossip_62 rfl rfl) dX11_gossip_63 w2_220) dX11_gossip_66 w1_139) rfl) dX11_gossip_69 w4_179)) rfl) dX11_gossip_72 w5_27)) dX11_gossip_75) dX11_gossip_76 rfl rfl) (t_iinc dX11_gossip_78 rfl rfl rfl rfl) (lda_cons (ld_in rfl) lda_nil) lda_nil (lda_cons (ld_goto (y := 43) dX11_gossip_81 rfl (ld_in rfl)) lda_nil) (ld_in rfl) lda_nil
noncomputable def LX11_gossip_2 : Sm Int32 := dLoop (fun f => (sI (sI (sI (sR (sR fr0 0 (gR f 0)) 1 (gR f 1)) 2 (gI f 2)) 3 (gI f 3)) 4 (gI f 4))) (dCI r_lt (vI 4) (dGI 5 4 (dGR 11 2 (vR 0)))) (dSeq (dSetI 5 (cI 0)) (dSeq (dSeq (dSetI 6 (cI 0)) LX11_gossip_1) (dIf (dCI r_gt (vI 5) (vI 3)) (dSeq (dSetI 3 (vI 5)) (dSetI 2 (vI 4))) dSkip))) (dInc 4 1)
theorem sLX11_gossip_2 {ΓL : Gm} {PB PK : List Nat} : SS (cvoI, .ireturn) miX11_gossip ΓL PB PK [(0, 2), (1, 2), (2, 0), (3, 0), (4, 0)] [(0, 2), (1, 2), (2, 0), (3, 0), (4, 0)] 25 [102] LX11_gossip_2 := t_loop (pT := 37) (pF := 102) (pu := 96) (PB' := []) (PK' := []) (XB := [96]) (XU := [99]) (fun _ _ => rfl) rfl (c_lt_F (pF := 102) (s_iload dX11_gossip_25 rfl) (s_getI ck5 4 (by decide) rfl (s_getR ck11 2 (by decide) rfl (s_aload_n dX11_gossip_27 rfl rfl) dX11_gossip_28 w2_220) dX11_gossip_31 w1_156) dX11_gossip_34 rfl) (t_sq (p1 := 40) (Γ' := [(0, 2), (1, 2), (2, 0), (3, 0), (4, 0), (5, 0)]) (t_istore (s_iconst dX11_gossip_37 rfl) dX11_gossip_38 rfl rfl) (t_sq (p1 := 84) (Γ' := [(0, 2), (1, 2), (2, 0), (3, 0), (4, 0), (5, 0)]) (t_sq (p1 := 43) (Γ' := [(0, 2), (1, 2), (2, 0), (3, 0), (4, 0), (5, 0), (6, 0)]) (t_istore (s_iconst dX11_gossip_40 rfl) dX11_gossip_41 rfl rfl) (tn_to (Γ' := [(0, 2), (1, 2), (2, 0), (3, 0), (4, 0), (5, 0), (6, 0)]) (XA := [84]) sLX11_gossip_1 (lda_cons (ld_in rfl) lda_nil) rfl)) (t_if (pT := 90) (pF := 96) (X := [96]) (XA := [96]) (XB := [96]) (c_gt_F (pF := 96) (s_iload dX11_gossip_84 rfl) (s_iload_n dX11_gossip_86 rfl rfl) dX11_gossip_87 rfl) (t_sq (p1 := 93) (Γ' := [(0, 2), (1, 2), (2, 0), (3, 0), (4, 0), (5, 0)]) (t_istore_n (s_iload dX11_gossip_90 rfl) dX11_gossip_92 rfl rfl rfl) (t_istore_n (s_iload dX11_gossip_93 rfl) dX11_gossip_95 rfl rfl rfl)) (t_skip (ld_in rfl) rfl) (lda_cons (ld_in rfl) lda_nil) (lda_cons (ld_in rfl) lda_nil)))) (t_iinc dX11_gossip_96 rfl rfl rfl rfl) (lda_cons (ld_in rfl) lda_nil) lda_nil (lda_cons (ld_goto (y := 25) dX11_gossip_99 rfl (ld_in rfl)) lda_nil) (ld_in rfl) lda_nil
noncomputable def BX11_gossip : Sm Int32 := (dSeq (dIf (dNot (dCZ q_ne (dCallV 5 DX5_isTold (aR aN 0 (dGR 11 2 (vR 0)))))) (dRet (cI (-2))) dSkip) (dSeq (dSetR 1 (dCallV 11 DX11_today (aR aN 0 (vR 0)))) (dSeq (dSetI 2 (cI (-1))) (dSeq (dSetI 3 (cI (-1))) (dSeq (dSeq (dSetI 4 (cI 0)) LX11_gossip_2) (dRet (vI 2)))))))
theorem sBX11_gossip : SS (cvoI, .ireturn) miX11_gossip [] [] [] [(0, 2)] [(0, 2)] 0 [] BX11_gossip := (t_sq (p1 := 13) (Γ' := [(0, 2)]) (t_if (pT := 10) (pF := 13) (X := [13]) (XA := []) (XB := [13]) (c_not (pT := 10) (pF := 13) (c_ne_ZJ (pT := 13) (s_of_xI (x_callV (ts := [(0, 2)]) ck5 rfl kX5_isTold mokX5_isTold w4_76 w4_77 rfl rfl rfl rfl (a_R (ts := []) 0 a_nil (s_getR ck11 2 (by decide) rfl (s_aload_n dX11_gossip_0 rfl rfl) dX11_gossip_1 w2_220) rfl) dX11_gossip_4 w4_217)) dX11_gossip_7 rfl)) (t_ret (cv := cvI) (fun _ _ => rfl) (s_bipush dX11_gossip_10 rfl) dX11_gossip_12) (t_skip (ld_in rfl) rfl) lda_nil (lda_cons (ld_in rfl) lda_nil)) (t_sq (p1 := 18) (Γ' := [(0, 2), (1, 2)]) (t_astore_n (s_of_xR (x_callV (ts := [(0, 2)]) ck11 rfl kX11_today mokX11_today w4_81 ps2_0 rfl rfl rfl rfl (a_R (ts := []) 0 a_nil (s_aload_n dX11_gossip_13 rfl rfl) rfl) dX11_gossip_14 w4_79)) dX11_gossip_17 rfl rfl rfl) (t_sq (p1 := 20) (Γ' := [(0, 2), (1, 2), (2, 0)]) (t_istore_n (s_iconst dX11_gossip_18 rfl) dX11_gossip_19 rfl rfl rfl) (t_sq (p1 := 22) (Γ' := [(0, 2), (1, 2), (2, 0), (3, 0)]) (t_istore_n (s_iconst dX11_gossip_20 rfl) dX11_gossip_21 rfl rfl rfl) (t_sq (p1 := 102) (Γ' := [(0, 2), (1, 2), (2, 0), (3, 0)]) (t_sq (p1 := 25) (Γ' := [(0, 2), (1, 2), (2, 0), (3, 0), (4, 0)]) (t_istore (s_iconst dX11_gossip_22 rfl) dX11_gossip_23 rfl rfl) (tn_to (Γ' := [(0, 2), (1, 2), (2, 0), (3, 0), (4, 0)]) (XA := [102]) sLX11_gossip_2 (lda_cons (ld_in rfl) lda_nil) rfl)) (t_ret (cv := cvI) (fun _ _ => rfl) (s_iload_n dX11_gossip_102 rfl rfl) dX11_gossip_103))))))
noncomputable def DX11_gossip : Fr → St → Option (Int32 × St) := M1 (fun f => (sR fr0 0 (gR f 0))) BX11_gossip
theorem kX11_gossip : SND yX11_gossip cX11_gossip 7 (some .int) 8 [(0, 2)] cvoI DX11_gossip := snd_I (nw := 1) (by decide) rfl rfl (fun _ _ => rfl) sBX11_gossip
theorem dX11_famous_0 : decode cX11_famous 0 = .ok (.aload_n 0, 1) := by decide +kernel
theorem dX11_famous_1 : decode cX11_famous 1 = .ok (.getfield 26, 3) := by decide +kernel
theorem dX11_famous_4 : decode cX11_famous 4 = .ok (.invokevirtual 209, 3) := by decide +kernel
theorem dX11_famous_7 : decode cX11_famous 7 = .ok (.ifCond .ne 6, 3) := by decide +kernel
theorem dX11_famous_10 : decode cX11_famous 10 = .ok (.bipush (-2), 2) := by decide +kernel
theorem dX11_famous_12 : decode cX11_famous 12 = .ok (.ireturn, 1) := by decide +kernel
theorem dX11_famous_13 : decode cX11_famous 13 = .ok (.aload_n 0, 1) := by decide +kernel
theorem dX11_famous_14 : decode cX11_famous 14 = .ok (.invokevirtual 167, 3) := by decide +kernel
theorem dX11_famous_17 : decode cX11_famous 17 = .ok (.astore_n 1, 1) := by decide +kernel
theorem dX11_famous_18 : decode cX11_famous 18 = .ok (.iconst (-1), 1) := by decide +kernel
theorem dX11_famous_19 : decode cX11_famous 19 = .ok (.istore_n 2, 1) := by decide +kernel
theorem dX11_famous_20 : decode cX11_famous 20 = .ok (.iconst (-1), 1) := by decide +kernel
theorem dX11_famous_21 : decode cX11_famous 21 = .ok (.istore_n 3, 1) := by decide +kernel
theorem dX11_famous_22 : decode cX11_famous 22 = .ok (.iconst 0, 1) := by decide +kernel
theorem dX11_famous_23 : decode cX11_famous 23 = .ok (.istore 4, 2) := by decide +kernel
theorem dX11_famous_25 : decode cX11_famous 25 = .ok (.iload 4, 2) := by decide +kernel
theorem dX11_famous_27 : decode cX11_famous 27 = .ok (.aload_n 0, 1) := by decide +kernel
theorem dX11_famous_28 : decode cX11_famous 28 = .ok (.getfield 26, 3) := by decide +kernel
theorem dX11_famous_31 : decode cX11_famous 31 = .ok (.getfield 248, 3) := by decide +kernel
theorem dX11_famous_34 : decode cX11_famous 34 = .ok (.if_icmp .ge 43, 3) := by decide +kernel
theorem dX11_famous_37 : decode cX11_famous 37 = .ok (.aload_n 1, 1) := by decide +kernel
theorem dX11_famous_38 : decode cX11_famous 38 = .ok (.aload_n 0, 1) := by decide +kernel
theorem dX11_famous_39 : decode cX11_famous 39 = .ok (.getfield 26, 3) := by decide +kernel
theorem dX11_famous_42 : decode cX11_famous 42 = .ok (.iload 4, 2) := by decide +kernel
theorem dX11_famous_44 : decode cX11_famous 44 = .ok (.aload_n 0, 1) := by decide +kernel
theorem dX11_famous_45 : decode cX11_famous 45 = .ok (.getfield 26, 3) := by decide +kernel
theorem dX11_famous_48 : decode cX11_famous 48 = .ok (.getfield 200, 3) := by decide +kernel
theorem dX11_famous_51 : decode cX11_famous 51 = .ok (.invokevirtual 190, 3) := by decide +kernel
theorem dX11_famous_54 : decode cX11_famous 54 = .ok (.invokestatic 243, 3) := by decide +kernel
theorem dX11_famous_57 : decode cX11_famous 57 = .ok (.istore 5, 2) := by decide +kernel
theorem dX11_famous_59 : decode cX11_famous 59 = .ok (.iload 5, 2) := by decide +kernel
theorem dX11_famous_61 : decode cX11_famous 61 = .ok (.iload_n 3, 1) := by decide +kernel
theorem dX11_famous_62 : decode cX11_famous 62 = .ok (.if_icmp .le 9, 3) := by decide +kernel
theorem dX11_famous_65 : decode cX11_famous 65 = .ok (.iload 5, 2) := by decide +kernel
theorem dX11_famous_67 : decode cX11_famous 67 = .ok (.istore_n 3, 1) := by decide +kernel
theorem dX11_famous_68 : decode cX11_famous 68 = .ok (.iload 4, 2) := by decide +kernel
theorem dX11_famous_70 : decode cX11_famous 70 = .ok (.istore_n 2, 1) := by decide +kernel
theorem dX11_famous_71 : decode cX11_famous 71 = .ok (.iinc 4 1, 3) := by decide +kernel
theorem dX11_famous_74 : decode cX11_famous 74 = .ok (.goto (-49), 3) := by decide +kernel
theorem dX11_famous_77 : decode cX11_famous 77 = .ok (.iload_n 2, 1) := by decide +kernel
theorem dX11_famous_78 : decode cX11_famous 78 = .ok (.ireturn, 1) := by decide +kernel
theorem mokX11_famous : MOK yX11_famous cX11_famous 6 (some .int) 0 := ⟨w5_40, w1_1, ⟨by decide, by decide⟩, by decide +kernel, by decide⟩
abbrev miX11_famous : MI := (yX11_famous.cls, cX11_famous, 6, 8, false)
noncomputable def LX11_famous_1 : Sm Int32 := dLoop (fun f => (sI (sI (sI (sR (sR fr0 0 (gR f 0)) 1 (gR f 1)) 2 (gI f 2)) 3 (gI f 3)) 4 (gI f 4))) (dCI r_lt (vI 4) (dGI 5 7 (dGR 11 2 (vR 0)))) (dSeq (dSetI 5 (dCall DJ6_bitCount_0f7a4 (aI aN 0 (dCallV 3 DX3_hearersOn (aI (aI (aR (aR aN 0 (vR 1)) 1 (dGR 11 2 (vR 0))) 2 (vI 4)) 3 (dGI 5 1 (dGR 11 2 (vR 0)))))))) (dIf (dCI r_gt (vI 5) (vI 3)) (dSeq (dSetI 3 (vI 5)) (dSetI 2 (vI 4))) dSkip)) (dInc 4 1)
theorem sLX11_famous_1 {ΓL : Gm} {PB PK : List Nat} : SS (cvoI, .ireturn) miX11_famous ΓL PB PK [(0, 2), (1, 2), (2, 0), (3, 0), (4, 0)] [(0, 2), (1, 2), (2, 0), (3, 0), (4, 0)] 25 [77] LX11_famous_1 := t_loop (pT := 37) (pF := 77) (pu := 71) (PB' := []) (PK' := []) (XB := [71]) (XU := [74]) (fun _ _ => rfl) rfl (c_lt_F (pF := 77) (s_iload dX11_famous_25 rfl) (s_getI ck5 7 (by decide) rfl (s_getR ck11 2 (by decide) rfl (s_aload_n dX11_famous_27 rfl rfl) dX11_famous_28 w2_220) dX11_famous_31 w1_169) dX11_famous_34 rfl) (t_sq (p1 := 59) (Γ' := [(0, 2), (1, 2), (2, 0), (3, 0), (4, 0), (5, 0)]) (t_istore (s_of_xI (x_call (ts := [(0, 0)]) kJ6_bitCount_0f7a4 mokJ6_bitCount_0f7a4 w5_28 rfl rfl rfl (a_I (ts := []) 0 a_nil (s_of_xI (x_callV (ts := [(0, 2), (1, 2), (2, 0), (3, 0)]) ck3 rfl kX3_hearersOn mokX3_hearersOn w4_188 w4_189 rfl rfl rfl rfl (a_I (ts := [(0, 2), (1, 2), (2, 0)]) 3 (a_I (ts := [(0, 2), (1, 2)]) 2 (a_R (ts := [(0, 2)]) 1 (a_R (ts := []) 0 a_nil (s_aload_n dX11_famous_37 rfl rfl) rfl) (s_getR ck11 2 (by decide) rfl (s_aload_n dX11_famous_38 rfl rfl) dX11_famous_39 w2_220) rfl) (s_iload dX11_famous_42 rfl) rfl) (s_getI ck5 1 (by decide) rfl (s_getR ck11 2 (by decide) rfl (s_aload_n dX11_famous_44 rfl rfl) dX11_famous_45 w2_220) dX11_famous_48 w1_139) rfl) dX11_famous_51 w4_187)) rfl) dX11_famous_54 w5_27)) dX11_famous_57 rfl rfl) (t_if (pT := 65) (pF := 71) (X := [71]) (XA := [71]) (XB := [71]) (c_gt_F (pF := 71) (s_iload dX11_famous_59 rfl) (s_iload_n dX11_famous_61 rfl rfl) dX11_famous_62 rfl) (t_sq (p1 := 68) (Γ' := [(0, 2), (1, 2), (2, 0), (3, 0), (4, 0), (5, 0)]) (t_istore_n (s_iload dX11_famous_65 rfl) dX11_famous_67 rfl rfl rfl) (t_istore_n (s_iload dX11_famous_68 rfl) dX11_famous_70 rfl rfl rfl)) (t_skip (ld_in rfl) rfl) (lda_cons (ld_in rfl) lda_nil) (lda_cons (ld_in rfl) lda_nil))) (t_iinc dX11_famous_71 rfl rfl rfl rfl) (lda_cons (ld_in rfl) lda_nil) lda_nil (lda_cons (ld_goto (y := 25) dX11_famous_74 rfl (ld_in rfl)) lda_nil) (ld_in rfl) lda_nil
noncomputable def BX11_famous : Sm Int32 := (dSeq (dIf (dNot (dCZ q_ne (dCallV 5 DX5_isTold (aR aN 0 (dGR 11 2 (vR 0)))))) (dRet (cI (-2))) dSkip) (dSeq (dSetR 1 (dCallV 11 DX11_today (aR aN 0 (vR 0)))) (dSeq (dSetI 2 (cI (-1))) (dSeq (dSetI 3 (cI (-1))) (dSeq (dSeq (dSetI 4 (cI 0)) LX11_famous_1) (dRet (vI 2)))))))
theorem sBX11_famous : SS (cvoI, .ireturn) miX11_famous [] [] [] [(0, 2)] [(0, 2)] 0 [] BX11_famous := (t_sq (p1 := 13) (Γ' := [(0, 2)]) (t_if (pT := 10) (pF := 13) (X := [13]) (XA := []) (XB := [13]) (c_not (pT := 10) (pF := 13) (c_ne_ZJ (pT := 13) (s_of_xI (x_callV (ts := [(0, 2)]) ck5 rfl kX5_isTold mokX5_isTold w4_76 w4_77 rfl rfl rfl rfl (a_R (ts := []) 0 a_nil (s_getR ck11 2 (by decide) rfl (s_aload_n dX11_famous_0 rfl rfl) dX11_famous_1 w2_220) rfl) dX11_famous_4 w4_217)) dX11_famous_7 rfl)) (t_ret (cv := cvI) (fun _ _ => rfl) (s_bipush dX11_famous_10 rfl) dX11_famous_12) (t_skip (ld_in rfl) rfl) lda_nil (lda_cons (ld_in rfl) lda_nil)) (t_sq (p1 := 18) (Γ' := [(0, 2), (1, 2)]) (t_astore_n (s_of_xR (x_callV (ts := [(0, 2)]) ck11 rfl kX11_today mokX11_today w4_81 ps2_0 rfl rfl rfl rfl (a_R (ts := []) 0 a_nil (s_aload_n dX11_famous_13 rfl rfl) rfl) dX11_famous_14 w4_79)) dX11_famous_17 rfl rfl rfl) (t_sq (p1 := 20) (Γ' := [(0, 2), (1, 2), (2, 0)]) (t_istore_n (s_iconst dX11_famous_18 rfl) dX11_famous_19 rfl rfl rfl) (t_sq (p1 := 22) (Γ' := [(0, 2), (1, 2), (2, 0), (3, 0)]) (t_istore_n (s_iconst dX11_famous_20 rfl) dX11_famous_21 rfl rfl rfl) (t_sq (p1 := 77) (Γ' := [(0, 2), (1, 2), (2, 0), (3, 0)]) (t_sq (p1 := 25) (Γ' := [(0, 2), (1, 2), (2, 0), (3, 0), (4, 0)]) (t_istore (s_iconst dX11_famous_22 rfl) dX11_famous_23 rfl rfl) (tn_to (Γ' := [(0, 2), (1, 2), (2, 0), (3, 0), (4, 0)]) (XA := [77]) sLX11_famous_1 (lda_cons (ld_in rfl) lda_nil) rfl)) (t_ret (cv := cvI) (fun _ _ => rfl) (s_iload_n dX11_famous_77 rfl rfl) dX11_famous_78))))))
noncomputable def DX11_famous : Fr → St → Option (Int32 × St) := M1 (fun f => (sR fr0 0 (gR f 0))) BX11_famous
theorem kX11_famous : SND yX11_famous cX11_famous 6 (some .int) 8 [(0, 2)] cvoI DX11_famous := snd_I (nw := 1) (by decide) rfl rfl (fun _ _ => rfl) sBX11_famous
theorem dX0_markSeen_0 : decode cX0_markSeen 0 = .ok (.aload_n 0, 1) := by decide +kernel
theorem dX0_markSeen_1 : decode cX0_markSeen 1 = .ok (.getfield 33, 3) := by decide +kernel
theorem dX0_markSeen_4 : decode cX0_markSeen 4 = .ok (.iload_n 2, 1) := by decide +kernel
theorem dX0_markSeen_5 : decode cX0_markSeen 5 = .ok (.invokestatic 76, 3) := by decide +kernel
theorem dX0_markSeen_8 : decode cX0_markSeen 8 = .ok (.istore_n 3, 1) := by decide +kernel
theorem dX0_markSeen_9 : decode cX0_markSeen 9 = .ok (.aload_n 0, 1) := by decide +kernel
theorem dX0_markSeen_10 : decode cX0_markSeen 10 = .ok (.getfield 33, 3) := by decide +kernel
theorem dX0_markSeen_13 : decode cX0_markSeen 13 = .ok (.iload_n 2, 1) := by decide +kernel
theorem dX0_markSeen_14 : decode cX0_markSeen 14 = .ok (.iload_n 3, 1) := by decide +kernel
theorem dX0_markSeen_15 : decode cX0_markSeen 15 = .ok (.iconst 1, 1) := by decide +kernel
theorem dX0_markSeen_16 : decode cX0_markSeen 16 = .ok (.iload_n 1, 1) := by decide +kernel
theorem dX0_markSeen_17 : decode cX0_markSeen 17 = .ok (.ishl, 1) := by decide +kernel
theorem dX0_markSeen_18 : decode cX0_markSeen 18 = .ok (.ior, 1) := by decide +kernel
theorem dX0_markSeen_19 : decode cX0_markSeen 19 = .ok (.invokestatic 80, 3) := by decide +kernel
theorem dX0_markSeen_22 : decode cX0_markSeen 22 = .ok (.iload_n 3, 1) := by decide +kernel
theorem dX0_markSeen_23 : decode cX0_markSeen 23 = .ok (.iload_n 1, 1) := by decide +kernel
theorem dX0_markSeen_24 : decode cX0_markSeen 24 = .ok (.invokestatic 136, 3) := by decide +kernel
theorem dX0_markSeen_27 : decode cX0_markSeen 27 = .ok (.ifCond .ne 7, 3) := by decide +kernel
theorem dX0_markSeen_30 : decode cX0_markSeen 30 = .ok (.iconst 1, 1) := by decide +kernel
theorem dX0_markSeen_31 : decode cX0_markSeen 31 = .ok (.goto 4, 3) := by decide +kernel
theorem dX0_markSeen_34 : decode cX0_markSeen 34 = .ok (.iconst 0, 1) := by decide +kernel
theorem dX0_markSeen_35 : decode cX0_markSeen 35 = .ok (.ireturn, 1) := by decide +kernel
theorem mokX0_markSeen : MOK yX0_markSeen cX0_markSeen 4 (some .boolean) 2 := ⟨w5_72, w1_10, ⟨by decide, by decide⟩, by decide +kernel, by decide⟩
abbrev miX0_markSeen : MI := (yX0_markSeen.cls, cX0_markSeen, 4, 2, false)
noncomputable def BX0_markSeen : Sm Int32 := (dSeq (dSetI 3 (dCall DX11_cell (aI (aR aN 0 (dGR 0 7 (vR 0))) 1 (vI 2)))) (dSeq (dDo (dCall DX11_put (aI (aI (aR aN 0 (dGR 0 7 (vR 0))) 1 (vI 2)) 2 (d2 o_ior (vI 3) (d2 o_ishl (cI 1) (vI 1)))))) (dRet (dB (dNot (dCZ q_ne (dCall DX11_hasBit (aI (aI aN 0 (vI 3)) 1 (vI 1)))))))))
theorem sBX0_markSeen : SS (cvoI, .ireturn) miX0_markSeen [] [] [] [(0, 2), (1, 0), (2, 0)] [(0, 2), (1, 0), (2, 0)] 0 [] BX0_markSeen := (t_sq (p1 := 9) (Γ' := [(0, 2), (1, 0), (2, 0), (3, 0)]) (t_istore_n (s_of_xI (x_callN (ts := [(0, 2), (1, 0)]) kX11_cell mokX11_cell w3_229 rfl rfl rfl (a_I (ts := [(0, 2)]) 1 (a_R (ts := []) 0 a_nil (s_getR ck0 7 (by decide) rfl (s_aload_n dX0_markSeen_0 rfl rfl) dX0_markSeen_1 w2_138) rfl) (s_iload_n dX0_markSeen_4 rfl rfl) rfl) dX0_markSeen_5 nb25)) dX0_markSeen_8 rfl rfl rfl) (t_sq (p1 := 22) (Γ' := [(0, 2), (1, 0), (2, 0), (3, 0)]) (t_do (x_callN (ts := [(0, 2), (1, 0), (2, 0)]) kX11_put mokX11_put w3_161 rfl rfl rfl (a_I (ts := [(0, 2), (1, 0)]) 2 (a_I (ts := [(0, 2)]) 1 (a_R (ts := []) 0 a_nil (s_getR ck0 7 (by decide) rfl (s_aload_n dX0_markSeen_9 rfl rfl) dX0_markSeen_10 w2_138) rfl) (s_iload_n dX0_markSeen_13 rfl rfl) rfl) (s_ior (s_iload_n dX0_markSeen_14 rfl rfl) (s_ishl (s_iconst dX0_markSeen_15 rfl) (s_iload_n dX0_markSeen_16 rfl rfl) dX0_markSeen_17) dX0_markSeen_18) rfl) dX0_markSeen_19 nb24) rfl) (t_ret (cv := cvI) (fun _ _ => rfl) (s_B (pT := 30) (pF := 34) (pe := 35) (c_not (pT := 30) (pF := 34) (c_ne_ZJ (pT := 34) (s_of_xI (x_callN (ts := [(0, 0), (1, 0)]) kX11_hasBit mokX11_hasBit w4_37 rfl rfl rfl (a_I (ts := [(0, 0)]) 1 (a_I (ts := []) 0 a_nil (s_iload_n dX0_markSeen_22 rfl rfl) rfl) (s_iload_n dX0_markSeen_23 rfl rfl) rfl) dX0_markSeen_24 nb26)) dX0_markSeen_27 rfl)) dX0_markSeen_30 dX0_markSeen_31 rfl dX0_markSeen_34 rfl) dX0_markSeen_35)))
noncomputable def DX0_markSeen : Fr → St → Option (Int32 × St) := MZ (fun f => (sI (sI (sR fr0 0 (gR f 0)) 1 (gI f 1)) 2 (gI f 2))) BX0_markSeen
theorem kX0_markSeen : SND yX0_markSeen cX0_markSeen 4 (some .boolean) 2 [(0, 2), (1, 0), (2, 0)] cvoI DX0_markSeen := snd_Z (nw := 3) (by decide) rfl rfl (fun _ _ => rfl) sBX0_markSeen
theorem dX0_enter_0 : decode cX0_enter 0 = .ok (.aload_n 0, 1) := by decide +kernel
theorem dX0_enter_1 : decode cX0_enter 1 = .ok (.iload_n 1, 1) := by decide +kernel
theorem dX0_enter_2 : decode cX0_enter 2 = .ok (.iload_n 2, 1) := by decide +kernel
theorem dX0_enter_3 : decode cX0_enter 3 = .ok (.invokevirtual 140, 3) := by decide +kernel
theorem dX0_enter_6 : decode cX0_enter 6 = .ok (.ifCond .eq 15, 3) := by decide +kernel
theorem dX0_enter_9 : decode cX0_enter 9 = .ok (.aload_n 0, 1) := by decide +kernel
theorem dX0_enter_10 : decode cX0_enter 10 = .ok (.getfield 68, 3) := by decide +kernel
theorem dX0_enter_13 : decode cX0_enter 13 = .ok (.aload_n 0, 1) := by decide +kernel
theorem dX0_enter_14 : decode cX0_enter 14 = .ok (.getfield 36, 3) := by decide +kernel
theorem dX0_enter_17 : decode cX0_enter 17 = .ok (.arraylength, 1) := by decide +kernel
theorem dX0_enter_18 : decode cX0_enter 18 = .ok (.if_icmp .lt 4, 3) := by decide +kernel
theorem dX0_enter_21 : decode cX0_enter 21 = .ok (.return_, 1) := by decide +kernel
theorem dX0_enter_22 : decode cX0_enter 22 = .ok (.aload_n 0, 1) := by decide +kernel
theorem dX0_enter_23 : decode cX0_enter 23 = .ok (.getfield 36, 3) := by decide +kernel
theorem dX0_enter_26 : decode cX0_enter 26 = .ok (.aload_n 0, 1) := by decide +kernel
theorem dX0_enter_27 : decode cX0_enter 27 = .ok (.getfield 68, 3) := by decide +kernel
theorem dX0_enter_30 : decode cX0_enter 30 = .ok (.iload_n 1, 1) := by decide +kernel
theorem dX0_enter_31 : decode cX0_enter 31 = .ok (.iload_n 2, 1) := by decide +kernel
theorem dX0_enter_32 : decode cX0_enter 32 = .ok (.iconst 3, 1) := by decide +kernel
theorem dX0_enter_33 : decode cX0_enter 33 = .ok (.ishl, 1) := by decide +kernel
theorem dX0_enter_34 : decode cX0_enter 34 = .ok (.ior, 1) := by decide +kernel
theorem dX0_enter_35 : decode cX0_enter 35 = .ok (.iload_n 3, 1) := by decide +kernel
theorem dX0_enter_36 : decode cX0_enter 36 = .ok (.bipush 11, 2) := by decide +kernel
theorem dX0_enter_38 : decode cX0_enter 38 = .ok (.ishl, 1) := by decide +kernel
theorem dX0_enter_39 : decode cX0_enter 39 = .ok (.ior, 1) := by decide +kernel
theorem dX0_enter_40 : decode cX0_enter 40 = .ok (.invokestatic 80, 3) := by decide +kernel
theorem dX0_enter_43 : decode cX0_enter 43 = .ok (.aload_n 0, 1) := by decide +kernel
theorem dX0_enter_44 : decode cX0_enter 44 = .ok (.dup, 1) := by decide +kernel
theorem dX0_enter_45 : decode cX0_enter 45 = .ok (.getfield 68, 3) := by decide +kernel
theorem dX0_enter_48 : decode cX0_enter 48 = .ok (.iconst 1, 1) := by decide +kernel
theorem dX0_enter_49 : decode cX0_enter 49 = .ok (.iadd, 1) := by decide +kernel
theorem dX0_enter_50 : decode cX0_enter 50 = .ok (.putfield 68, 3) := by decide +kernel
theorem dX0_enter_53 : decode cX0_enter 53 = .ok (.iload_n 3, 1) := by decide +kernel
theorem dX0_enter_54 : decode cX0_enter 54 = .ok (.bipush 8, 2) := by decide +kernel
theorem dX0_enter_56 : decode cX0_enter 56 = .ok (.if_icmp .ge 26, 3) := by decide +kernel
theorem dX0_enter_59 : decode cX0_enter 59 = .ok (.aload_n 0, 1) := by decide +kernel
theorem dX0_enter_60 : decode cX0_enter 60 = .ok (.getfield 21, 3) := by decide +kernel
theorem dX0_enter_63 : decode cX0_enter 63 = .ok (.iload_n 3, 1) := by decide +kernel
theorem dX0_enter_64 : decode cX0_enter 64 = .ok (.aload_n 0, 1) := by decide +kernel
theorem dX0_enter_65 : decode cX0_enter 65 = .ok (.getfield 21, 3) := by decide +kernel
theorem dX0_enter_68 : decode cX0_enter 68 = .ok (.iload_n 3, 1) := by decide +kernel
theorem dX0_enter_69 : decode cX0_enter 69 = .ok (.invokestatic 76, 3) := by decide +kernel
theorem dX0_enter_72 : decode cX0_enter 72 = .ok (.iload_n 2, 1) := by decide +kernel
theorem dX0_enter_73 : decode cX0_enter 73 = .ok (.invokestatic 106, 3) := by decide +kernel
theorem dX0_enter_76 : decode cX0_enter 76 = .ok (.invokestatic 111, 3) := by decide +kernel
theorem dX0_enter_79 : decode cX0_enter 79 = .ok (.invokestatic 80, 3) := by decide +kernel
theorem dX0_enter_82 : decode cX0_enter 82 = .ok (.return_, 1) := by decide +kernel
theorem mokX0_enter : MOK yX0_enter cX0_enter 4 none 3 := ⟨w5_68, w1_10, ⟨by decide, by decide⟩, by decide +kernel, by decide⟩
abbrev miX0_enter : MI := (yX0_enter.cls, cX0_enter, 4, 3, false)
noncomputable def BX0_enter : Sm Unit := (dSeq (dIf (dOr (dNot (dCZ q_ne (dCallV 0 DX0_markSeen (aI (aI (aR aN 0 (vR 0)) 1 (vI 1)) 2 (vI 2))))) (dCI r_ge (dGI 0 9 (vR 0)) (dLen (dGR 0 8 (vR 0))))) dRet0 dSkip) (dSeq (dDo (dCall DX11_put (aI (aI (aR aN 0 (dGR 0 8 (vR 0))) 1 (dGI 0 9 (vR 0))) 2 (d2 o_ior (d2 o_ior (vI 1) (d2 o_ishl (vI 2) (cI 3))) (d2 o_ishl (vI 3) (cI 11)))))) (dSeq (dUF 0 9 o_iadd (vR 0) (cI 1)) (dSeq (dIf (dCI r_lt (vI 3) (cI 8)) (dDo (dCall DX11_put (aI (aI (aR aN 0 (dGR 0 3 (vR 0))) 1 (vI 3)) 2 (d2 o_imax (dCall DX11_cell (aI (aR aN 0 (dGR 0 3 (vR 0))) 1 (vI 3))) (dCall DJ6_bitCount_0f7a4 (aI aN 0 (vI 2))))))) dSkip) dRet0))))
theorem sBX0_enter : SS (cvoV, .return_) miX0_enter [] [] [] [(0, 2), (1, 0), (2, 0), (3, 0)] [(0, 2), (1, 0), (2, 0), (3, 0)] 0 [] BX0_enter := (t_sq (p1 := 22) (Γ' := [(0, 2), (1, 0), (2, 0), (3, 0)]) (t_if (pT := 21) (pF := 22) (X := [22]) (XA := []) (XB := [22]) (c_or (p1 := 9) (pT := 21) (pF := 22) (c_not (pT := 21) (pF := 9) (c_ne_ZF (pF := 21) (s_of_xI (x_callV (ts := [(0, 2), (1, 0), (2, 0)]) ck0 rfl kX0_markSeen mokX0_markSeen w5_71 ps2_9 rfl rfl rfl rfl (a_I (ts := [(0, 2), (1, 0)]) 2 (a_I (ts := [(0, 2)]) 1 (a_R (ts := []) 0 a_nil (s_aload_n dX0_enter_0 rfl rfl) rfl) (s_iload_n dX0_enter_1 rfl rfl) rfl) (s_iload_n dX0_enter_2 rfl rfl) rfl) dX0_enter_3 w5_69)) dX0_enter_6 rfl)) (c_ge_F (pF := 22) (s_getI ck0 9 (by decide) rfl (s_aload_n dX0_enter_9 rfl rfl) dX0_enter_10 w2_140) (s_len (s_getR ck0 8 (by decide) rfl (s_aload_n dX0_enter_13 rfl rfl) dX0_enter_14 w2_139) dX0_enter_17) dX0_enter_18 rfl)) (t_ret0 (fun _ _ => rfl) dX0_enter_21) (t_skip (ld_in rfl) rfl) lda_nil (lda_cons (ld_in rfl) lda_nil)) (t_sq (p1 := 43) (Γ' := [(0, 2), (1, 0), (2, 0), (3, 0)]) (t_do (x_callN (ts := [(0, 2), (1, 0), (2, 0)]) kX11_put mokX11_put w3_161 rfl rfl rfl (a_I (ts := [(0, 2), (1, 0)]) 2 (a_I (ts := [(0, 2)]) 1 (a_R (ts := []) 0 a_nil (s_getR ck0 8 (by decide) rfl (s_aload_n dX0_enter_22 rfl rfl) dX0_enter_23 w2_139) rfl) (s_getI ck0 9 (by decide) rfl (s_aload_n dX0_enter_26 rfl rfl) dX0_enter_27 w2_140) rfl) (s_ior (s_ior (s_iload_n dX0_enter_30 rfl rfl) (s_ishl (s_iload_n dX0_enter_31 rfl rfl) (s_iconst dX0_enter_32 rfl) dX0_enter_33) dX0_enter_34) (s_ishl (s_iload_n dX0_enter_35 rfl rfl) (s_bipush dX0_enter_36 rfl) dX0_enter_38) dX0_enter_39) rfl) dX0_enter_40 nb24) rfl) (t_sq (p1 := 53) (Γ' := [(0, 2), (1, 0), (2, 0), (3, 0)]) (t_UF ck0 9 (by decide) rfl (Or.inl rfl) (s_aload_n dX0_enter_43 rfl rfl) dX0_enter_44 dX0_enter_45 w2_140 (s_iconst dX0_enter_48 rfl) (fun _ _ _ _ => rulI fun a b K => lv_iadd a b dX0_enter_49 K) dX0_enter_50 w2_140 rfl) (t_sq (p1 := 82) (Γ' := [(0, 2), (1, 0), (2, 0), (3, 0)]) (t_if (pT := 59) (pF := 82) (X := [82]) (XA := [82]) (XB := [82]) (c_lt_F (pF := 82) (s_iload_n dX0_enter_53 rfl rfl) (s_bipush dX0_enter_54 rfl) dX0_enter_56 rfl) (t_do (x_callN (ts := [(0, 2), (1, 0), (2, 0)]) kX11_put mokX11_put w3_161 rfl rfl rfl (a_I (ts := [(0, 2), (1, 0)]) 2 (a_I (ts := [(0, 2)]) 1 (a_R (ts := []) 0 a_nil (s_getR ck0 3 (by decide) rfl (s_aload_n dX0_enter_59 rfl rfl) dX0_enter_60 w2_134) rfl) (s_iload_n dX0_enter_63 rfl rfl) rfl) (s_mmax (s_of_xI (x_callN (ts := [(0, 2), (1, 0)]) kX11_cell mokX11_cell w3_229 rfl rfl rfl (a_I (ts := [(0, 2)]) 1 (a_R (ts := []) 0 a_nil (s_getR ck0 3 (by decide) rfl (s_aload_n dX0_enter_64 rfl rfl) dX0_enter_65 w2_134) rfl) (s_iload_n dX0_enter_68 rfl rfl) rfl) dX0_enter_69 nb25)) (s_of_xI (x_call (ts := [(0, 0)]) kJ6_bitCount_0f7a4 mokJ6_bitCount_0f7a4 w5_28 rfl rfl rfl (a_I (ts := []) 0 a_nil (s_iload_n dX0_enter_72 rfl rfl) rfl) dX0_enter_73 w5_61)) rfl rfl dX0_enter_76 w5_74) rfl) dX0_enter_79 nb24) rfl) (t_skip (ld_in rfl) rfl) (lda_cons (ld_in rfl) lda_nil) (lda_cons (ld_in rfl) lda_nil)) (t_ret0 (fun _ _ => rfl) dX0_enter_82)))))
noncomputable def DX0_enter : Fr → St → Option (Unit × St) := M1 (fun f => (sI (sI (sI (sR fr0 0 (gR f 0)) 1 (gI f 1)) 2 (gI f 2)) 3 (gI f 3))) BX0_enter
theorem kX0_enter : SND yX0_enter cX0_enter 4 none 3 [(0, 2), (1, 0), (2, 0), (3, 0)] cvoV DX0_enter := snd_V (nw := 4) (by decide) (fun z => by cases z) rfl rfl (fun _ _ => rfl) sBX0_enter
theorem dX0_houseOf_0 : decode cX0_houseOf 0 = .ok (.iload_n 0, 1) := by decide +kernel
theorem dX0_houseOf_1 : decode cX0_houseOf 1 = .ok (.bipush 7, 2) := by decide +kernel
theorem dX0_houseOf_3 : decode cX0_houseOf 3 = .ok (.iand, 1) := by decide +kernel
theorem dX0_houseOf_4 : decode cX0_houseOf 4 = .ok (.ireturn, 1) := by decide +kernel
theorem mokX0_houseOf : MOK yX0_houseOf cX0_houseOf 1 (some .int) 1 := ⟨w5_81, w1_10, ⟨by decide, by decide⟩, by decide +kernel, by decide⟩
abbrev miX0_houseOf : MI := (yX0_houseOf.cls, cX0_houseOf, 1, 1, false)
noncomputable def BX0_houseOf : Sm Int32 := (dRet (d2 o_iand (vI 0) (cI 7)))
theorem sBX0_houseOf : SS (cvoI, .ireturn) miX0_houseOf [] [] [] [(0, 0)] [(0, 0)] 0 [] BX0_houseOf := (t_ret (cv := cvI) (fun _ _ => rfl) (s_iand (s_iload_n dX0_houseOf_0 rfl rfl) (s_bipush dX0_houseOf_1 rfl) dX0_houseOf_3) dX0_houseOf_4)
noncomputable def DX0_houseOf : Fr → St → Option (Int32 × St) := M1 (fun f => (sI fr0 0 (gI f 0))) BX0_houseOf
theorem kX0_houseOf : SND yX0_houseOf cX0_houseOf 1 (some .int) 1 [(0, 0)] cvoI DX0_houseOf := snd_I (nw := 1) (by decide) rfl rfl (fun _ _ => rfl) sBX0_houseOf
theorem dX0_setOf_0 : decode cX0_setOf 0 = .ok (.iload_n 0, 1) := by decide +kernel
theorem dX0_setOf_1 : decode cX0_setOf 1 = .ok (.iconst 3, 1) := by decide +kernel
theorem dX0_setOf_2 : decode cX0_setOf 2 = .ok (.ishr, 1) := by decide +kernel
theorem dX0_setOf_3 : decode cX0_setOf 3 = .ok (.sipush 255, 3) := by decide +kernel
theorem dX0_setOf_6 : decode cX0_setOf 6 = .ok (.iand, 1) := by decide +kernel
theorem dX0_setOf_7 : decode cX0_setOf 7 = .ok (.ireturn, 1) := by decide +kernel
theorem mokX0_setOf : MOK yX0_setOf cX0_setOf 1 (some .int) 1 := ⟨w5_84, w1_10, ⟨by decide, by decide⟩, by decide +kernel, by decide⟩
abbrev miX0_setOf : MI := (yX0_setOf.cls, cX0_setOf, 1, 1, false)
noncomputable def BX0_setOf : Sm Int32 := (dRet (d2 o_iand (d2 o_ishr (vI 0) (cI 3)) (cI 255)))
theorem sBX0_setOf : SS (cvoI, .ireturn) miX0_setOf [] [] [] [(0, 0)] [(0, 0)] 0 [] BX0_setOf := (t_ret (cv := cvI) (fun _ _ => rfl) (s_iand (s_ishr (s_iload_n dX0_setOf_0 rfl rfl) (s_iconst dX0_setOf_1 rfl) dX0_setOf_2) (s_sipush dX0_setOf_3 rfl) dX0_setOf_6) dX0_setOf_7)
noncomputable def DX0_setOf : Fr → St → Option (Int32 × St) := M1 (fun f => (sI fr0 0 (gI f 0))) BX0_setOf
theorem kX0_setOf : SND yX0_setOf cX0_setOf 1 (some .int) 1 [(0, 0)] cvoI DX0_setOf := snd_I (nw := 1) (by decide) rfl rfl (fun _ _ => rfl) sBX0_setOf
