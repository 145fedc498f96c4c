set_option maxRecDepth 100000
set_option maxHeartbeats 1000000
/-! what a call of the class leaves as it was (2) -/
theorem kp_BX5_isTold : KStm BX5_isTold := by
  unfold BX5_isTold
  exact (k_dRet (k_dB (k_dCZ (k_dGI k_vR))))
theorem kp_DX5_isTold : KExp DX5_isTold := by
  unfold DX5_isTold
  exact (k_MZ kp_BX5_isTold)
theorem kp_BX0_forget : KStm BX0_forget := by
  unfold BX0_forget
  exact (k_dSeq (k_dP (k_fI (by decide)) k_vR k_cI) (k_dSeq (k_dP (k_fI (by decide)) k_vR k_cI) k_dRet0))
theorem kp_DX0_forget : KExp DX0_forget := by
  unfold DX0_forget
  exact (k_M1 kp_BX0_forget)
theorem kp_BX11_makeStale : KStm BX11_makeStale := by
  unfold BX11_makeStale
  exact (k_dSeq (k_dP (k_fZ (by decide)) (k_dGR k_vR) k_cI) (k_dSeq (k_dP (k_fZ (by decide)) (k_dGR k_vR) k_cI) (k_dSeq (k_dDo (k_dCallV kp_DX0_forget (k_aR k_aN (k_dGR k_vR)))) k_dRet0)))
theorem kp_DX11_makeStale : KExp DX11_makeStale := by
  unfold DX11_makeStale
  exact (k_M1 kp_BX11_makeStale)
theorem kp_BX11_anew : KStm BX11_anew := by
  unfold BX11_anew
  exact (k_dSeq (k_dIf (k_dNot (k_dCZ (k_dCallV kp_DX5_isTold (k_aR k_aN (k_dGR k_vR))))) (k_dRet k_cI) k_dSkip) (k_dSeq (k_dSetI (k_dGI (k_dGR (k_dGR k_vR)))) (k_dSeq (k_dP (k_fI (by decide)) (k_dGR (k_dGR k_vR)) k_cI) (k_dSeq (k_dP (k_fI (by decide)) (k_dGR (k_dGR k_vR)) (k_dGI (k_dGR (k_dGR k_vR)))) (k_dSeq (k_dDo (k_dCallV kp_DX11_makeStale (k_aR k_aN k_vR))) (k_dRet k_vI))))))
theorem kp_DX11_anew : KExp DX11_anew := by
  unfold DX11_anew
  exact (k_M1 kp_BX11_anew)
theorem kp_BX8_isSlot : KStm BX8_isSlot := by
  unfold BX8_isSlot
  exact (k_dRet (k_dB (k_dAnd (k_dCZ k_vI) (k_dCI k_vI k_cI))))
theorem kp_DX8_isSlot : KExp DX8_isSlot := by
  unfold DX8_isSlot
  exact (k_MZ kp_BX8_isSlot)
theorem kp_BX5_isSlate : KStm BX5_isSlate := by
  unfold BX5_isSlate
  exact (k_dRet (k_dB (k_dAnd (k_dCZ k_vI) (k_dCI k_vI (k_dGI k_vR)))))
theorem kp_DX5_isSlate : KExp DX5_isSlate := by
  unfold DX5_isSlate
  exact (k_MZ kp_BX5_isSlate)
theorem kp_BX11_cell : KStm BX11_cell := by
  unfold BX11_cell
  exact (k_dRet (k_dT (k_dAnd (k_dAnd (k_dNN k_vR) (k_dCZ k_vI)) (k_dCI k_vI (k_dLen k_vR))) (k_dAI k_vR k_vI) k_cI))
theorem kp_DX11_cell : KExp DX11_cell := by
  unfold DX11_cell
  exact (k_M1 kp_BX11_cell)
theorem kp_BX8_hasRow : KStm BX8_hasRow := by
  unfold BX8_hasRow
  exact (k_dRet (k_dB (k_dCZ (k_dCall kp_DX11_cell (k_aI (k_aR k_aN (k_dGR k_vR)) k_vI)))))
theorem kp_DX8_hasRow : KExp DX8_hasRow := by
  unfold DX8_hasRow
  exact (k_MZ kp_BX8_hasRow)
theorem kp_BX8_sizeOf : KStm BX8_sizeOf := by
  unfold BX8_sizeOf
  exact (k_dRet (k_dCall kp_DX11_cell (k_aI (k_aR k_aN (k_dGR k_vR)) k_vI)))
theorem kp_DX8_sizeOf : KExp DX8_sizeOf := by
  unfold DX8_sizeOf
  exact (k_M1 kp_BX8_sizeOf)
theorem kp_BX8_numberAt : KStm BX8_numberAt := by
  unfold BX8_numberAt
  exact (k_dSeq (k_dSetI (k_d2 (k_d2 k_vI k_cI) k_vI)) (k_dRet (k_dT (k_dAnd (k_dCZ k_vI) (k_dCI k_vI (k_dLen (k_dGR k_vR)))) (k_dAL (k_dGR k_vR) k_vI) k_cL)))
theorem kp_DX8_numberAt : KExp DX8_numberAt := by
  unfold DX8_numberAt
  exact (k_M1 kp_BX8_numberAt)
theorem kp_LX7_wrongRow_1 : KStm LX7_wrongRow_1 := by
  unfold LX7_wrongRow_1
  exact (k_dLoop (k_dCI k_vI k_vI) (k_dSeq (k_dSetL (k_dCallV kp_DX8_numberAt (k_aI (k_aI (k_aR k_aN k_vR) k_vI) k_vI))) (k_dSeq (k_dSetL (k_dCallV kp_DX8_numberAt (k_aI (k_aI (k_aR k_aN k_vR) k_vI) (k_d2 k_vI k_cI)))) (k_dIf (k_dOr (k_dOr (k_dOr (k_dCZ (k_d2 k_vL k_cL)) (k_dCZ (k_d2 k_vL (k_d1 (k_dGI k_vR))))) (k_dCZ (k_d2 k_vL k_cL))) (k_dCZ (k_d2 k_vL (k_d1 (k_dGI k_vR))))) (k_dRet k_cI) k_dSkip))) k_dInc)
theorem kp_BX7_wrongRow : KStm BX7_wrongRow := by
  unfold BX7_wrongRow
  exact (k_dSeq (k_dIf (k_dOr (k_dNot (k_dCZ (k_dCallV kp_DX8_isSlot (k_aI (k_aR k_aN k_vR) k_vI)))) (k_dNot (k_dCZ (k_dCallV kp_DX5_isSlate (k_aI (k_aR k_aN k_vR) k_vI))))) (k_dRet k_cI) k_dSkip) (k_dSeq (k_dIf (k_dNot (k_dCZ (k_dCallV kp_DX8_hasRow (k_aI (k_aR k_aN k_vR) k_vI)))) (k_dRet k_cI) k_dSkip) (k_dSeq (k_dSetI (k_dCallV kp_DX8_sizeOf (k_aI (k_aR k_aN k_vR) k_vI))) (k_dSeq (k_dIf (k_dCZ (k_d2z k_vI k_cI)) (k_dRet k_cI) k_dSkip) (k_dSeq (k_dSeq (k_dSetI k_cI) kp_LX7_wrongRow_1) (k_dRet k_cI))))))
theorem kp_DX7_wrongRow : KExp DX7_wrongRow := by
  unfold DX7_wrongRow
  exact (k_M1 kp_BX7_wrongRow)
theorem kp_BX2_setAsTold : KStm BX2_setAsTold := by
  unfold BX2_setAsTold
  exact (k_dSeq (k_dP (k_fI (by decide)) k_vR (k_dGI k_vR)) (k_dSeq (k_dP (k_fI (by decide)) k_vR k_cI) (k_dSeq (k_dP (k_fI (by decide)) k_vR k_cI) (k_dSeq (k_dP (k_fI (by decide)) k_vR k_cI) (k_dSeq (k_dP (k_fI (by decide)) k_vR k_cI) (k_dSeq (k_dP (k_fI (by decide)) k_vR k_cI) k_dRet0))))))
theorem kp_DX2_setAsTold : KExp DX2_setAsTold := by
  unfold DX2_setAsTold
  exact (k_M1 kp_BX2_setAsTold)
theorem kp_LJ7_fill_53178_1 : KStm LJ7_fill_53178_1 := by
  unfold LJ7_fill_53178_1
  exact (k_dLoop (k_dCI k_vI k_vI) (k_d3 (k_stI (by decide)) k_vR k_vI k_vI) k_dInc)
theorem kp_BJ7_fill_53178 : KStm BJ7_fill_53178 := by
  unfold BJ7_fill_53178
  exact (k_dSeq (k_dSeq (k_dSetI k_cI) (k_dSeq (k_dSetI (k_dLen k_vR)) kp_LJ7_fill_53178_1)) k_dRet0)
theorem kp_DJ7_fill_53178 : KExp DJ7_fill_53178 := by
  unfold DJ7_fill_53178
  exact (k_M1 kp_BJ7_fill_53178)
theorem kp_BX11_put : KStm BX11_put := by
  unfold BX11_put
  exact (k_dSeq (k_dIf (k_dAnd (k_dAnd (k_dNN k_vR) (k_dCZ k_vI)) (k_dCI k_vI (k_dLen k_vR))) (k_d3 (k_stI (by decide)) k_vR k_vI k_vI) k_dSkip) k_dRet0)
theorem kp_DX11_put : KExp DX11_put := by
  unfold DX11_put
  exact (k_M1 kp_BX11_put)
theorem kp_LX2_begin_1 : KStm LX2_begin_1 := by
  unfold LX2_begin_1
  exact (k_dLoop (k_dCI k_vI (k_dGI k_vR)) (k_dDo (k_dCall kp_DX11_put (k_aI (k_aI (k_aR k_aN (k_dGR k_vR)) k_vI) (k_dCall kp_DX11_cell (k_aI (k_aR k_aN (k_dGR k_vR)) k_vI))))) k_dInc)
theorem kp_BX5_allWords : KStm BX5_allWords := by
  unfold BX5_allWords
  exact (k_dRet (k_d2 (k_d2 k_cI (k_dCall kp_DX11_cell (k_aI (k_aR k_aN (k_dGR k_vR)) k_vI))) k_cI))
theorem kp_DX5_allWords : KExp DX5_allWords := by
  unfold DX5_allWords
  exact (k_M1 kp_BX5_allWords)
theorem kp_LX1_rubbedByActs_1 : KStm LX1_rubbedByActs_1 := by
  unfold LX1_rubbedByActs_1
  exact (k_dLoop (k_dAnd (k_dCI k_vI (k_dGI k_vR)) (k_dCI k_vI k_cI)) (k_dIf (k_dAnd (k_dCI (k_dCall kp_DX11_cell (k_aI (k_aR k_aN (k_dGR k_vR)) k_vI)) k_cI) (k_dCI (k_dCall kp_DX11_cell (k_aI (k_aR k_aN (k_dGR k_vR)) k_vI)) k_vI)) (k_dSetI (k_d2 k_vI (k_d2 k_cI (k_dCall kp_DX11_cell (k_aI (k_aR k_aN (k_dGR k_vR)) k_vI))))) k_dSkip) k_dInc)
theorem kp_BX1_rubbedByActs : KStm BX1_rubbedByActs := by
  unfold BX1_rubbedByActs
  exact (k_dSeq (k_dSetI k_cI) (k_dSeq (k_dSeq (k_dSetI k_cI) kp_LX1_rubbedByActs_1) (k_dRet k_vI)))
theorem kp_DX1_rubbedByActs : KExp DX1_rubbedByActs := by
  unfold DX1_rubbedByActs
  exact (k_M1 kp_BX1_rubbedByActs)
theorem kp_BX5_leftAtFirst : KStm BX5_leftAtFirst := by
  unfold BX5_leftAtFirst
  exact (k_dRet (k_d2 (k_dCallV kp_DX5_allWords (k_aI (k_aR k_aN k_vR) k_vI)) (k_d2 (k_dCallV kp_DX1_rubbedByActs (k_aI (k_aR k_aN (k_dGR k_vR)) k_vI)) k_cI)))
theorem kp_DX5_leftAtFirst : KExp DX5_leftAtFirst := by
  unfold DX5_leftAtFirst
  exact (k_M1 kp_BX5_leftAtFirst)
theorem kp_LX2_begin_2 : KStm LX2_begin_2 := by
  unfold LX2_begin_2
  exact (k_dLoop (k_dCI k_vI (k_dGI k_vR)) (k_dSeq (k_dSetI (k_dT (k_dCI k_vI (k_dGI k_vR)) (k_dGI k_vR) (k_dCall kp_DX11_cell (k_aI (k_aR k_aN (k_dGR k_vR)) k_vI)))) (k_dSeq (k_dDo (k_dCall kp_DX11_put (k_aI (k_aI (k_aR k_aN (k_dGR k_vR)) k_vI) k_vI))) (k_dSeq (k_dDo (k_dCall kp_DX11_put (k_aI (k_aI (k_aR k_aN (k_dGR k_vR)) k_vI) (k_dCallV kp_DX5_leftAtFirst (k_aI (k_aR k_aN k_vR) k_vI))))) (k_dSeq (k_dDo (k_dCall kp_DX11_put (k_aI (k_aI (k_aR k_aN (k_dGR k_vR)) k_vI) (k_d2 k_cI k_vI)))) (k_dDo (k_dCall kp_DX11_put (k_aI (k_aI (k_aR k_aN (k_dGR k_vR)) (k_d2 (k_d2 k_vI k_cI) k_vI)) (k_dCall kp_DX11_cell (k_aI (k_aR k_aN (k_dGR k_vR)) k_vI))))))))) k_dInc)
theorem kp_BX2_begin : KStm BX2_begin := by
  unfold BX2_begin
  exact (k_dSeq (k_dDo (k_dCall kp_DJ7_fill_53178 (k_aI (k_aR k_aN (k_dGR k_vR)) k_cI))) (k_dSeq (k_dDo (k_dCall kp_DJ7_fill_53178 (k_aI (k_aR k_aN (k_dGR k_vR)) k_cI))) (k_dSeq (k_dDo (k_dCall kp_DJ7_fill_53178 (k_aI (k_aR k_aN (k_dGR k_vR)) k_cI))) (k_dSeq (k_dSeq (k_dSetI k_cI) kp_LX2_begin_1) (k_dSeq (k_dSeq (k_dSetI k_cI) kp_LX2_begin_2) k_dRet0)))))
theorem kp_DX2_begin : KExp DX2_begin := by
  unfold DX2_begin
  exact (k_M1 kp_BX2_begin)
theorem kp_BX3_note : KStm BX3_note := by
  unfold BX3_note
  exact (k_dSeq (k_dIf (k_dOr (k_dCZ k_vI) (k_dCI k_vI k_cI)) k_dRet0 k_dSkip) (k_dSeq (k_dCp (by decide) (k_aI (k_aI (k_aR (k_aI (k_aR k_aN (k_dGR (k_dGR k_vR))) k_cI) (k_dGR k_vR)) (k_d2 k_vI k_cI)) k_cI)) (k_dSeq (k_dCp (by decide) (k_aI (k_aI (k_aR (k_aI (k_aR k_aN (k_dGR (k_dGR k_vR))) k_cI) (k_dGR k_vR)) (k_d2 k_vI k_cI)) k_cI)) (k_dSeq (k_dCp (by decide) (k_aI (k_aI (k_aR (k_aI (k_aR k_aN (k_dGR (k_dGR k_vR))) k_cI) (k_dGR k_vR)) (k_d2 k_vI k_cI)) k_cI)) (k_dSeq (k_dCp (by decide) (k_aI (k_aI (k_aR (k_aI (k_aR k_aN (k_dGR (k_dGR k_vR))) k_cI) (k_dGR k_vR)) (k_d2 (k_d2 k_vI k_cI) k_cI)) k_cI)) k_dRet0)))))
theorem kp_DX3_note : KExp DX3_note := by
  unfold DX3_note
  exact (k_M1 kp_BX3_note)
theorem kp_BX11_hasBit : KStm BX11_hasBit := by
  unfold BX11_hasBit
  exact (k_dRet (k_dB (k_dAnd (k_dAnd (k_dCZ k_vI) (k_dCI k_vI k_cI)) (k_dCZ (k_d2 (k_d2 k_vI k_vI) k_cI)))))
theorem kp_DX11_hasBit : KExp DX11_hasBit := by
  unfold DX11_hasBit
  exact (k_MZ kp_BX11_hasBit)
theorem kp_LX5_doorsOf_1 : KStm LX5_doorsOf_1 := by
  unfold LX5_doorsOf_1
  exact (k_dLoop (k_dAnd (k_dCI k_vI (k_dGI k_vR)) (k_dCI k_vI k_cI)) (k_dSeq (k_dSetI (k_dCall kp_DX11_cell (k_aI (k_aR k_aN (k_dGR k_vR)) k_vI))) (k_dSeq (k_dSetI (k_dCall kp_DX11_cell (k_aI (k_aR k_aN (k_dGR k_vR)) k_vI))) (k_dSeq (k_dIf (k_dAnd (k_dCI k_vI k_vI) (k_dCI k_vI k_vI)) (k_dSetI (k_d2 k_vI (k_d2 k_cI k_vI))) k_dSkip) (k_dIf (k_dAnd (k_dCI k_vI k_vI) (k_dCI k_vI k_vI)) (k_dSetI (k_d2 k_vI (k_d2 k_cI k_vI))) k_dSkip)))) k_dInc)
theorem kp_BX5_doorsOf : KStm BX5_doorsOf := by
  unfold BX5_doorsOf
  exact (k_dSeq (k_dSetI k_cI) (k_dSeq (k_dSeq (k_dSetI k_cI) kp_LX5_doorsOf_1) (k_dRet k_vI)))
theorem kp_DX5_doorsOf : KExp DX5_doorsOf := by
  unfold DX5_doorsOf
  exact (k_M1 kp_BX5_doorsOf)
theorem kp_LX5_weightOf_1 : KStm LX5_weightOf_1 := by
  unfold LX5_weightOf_1
  exact (k_dLoop (k_dCI k_vI k_cI) (k_dIf (k_dCZ (k_dCall kp_DX11_hasBit (k_aI (k_aI k_aN k_vI) k_vI))) (k_dSetI (k_d2 k_vI (k_dCall kp_DX11_cell (k_aI (k_aR k_aN (k_dGR k_vR)) (k_d2 (k_d2 k_vI k_cI) k_vI))))) k_dSkip) k_dInc)
theorem kp_BX5_weightOf : KStm BX5_weightOf := by
  unfold BX5_weightOf
  exact (k_dSeq (k_dSetI k_cI) (k_dSeq (k_dSeq (k_dSetI k_cI) kp_LX5_weightOf_1) (k_dRet k_vI)))
theorem kp_DX5_weightOf : KExp DX5_weightOf := by
  unfold DX5_weightOf
  exact (k_M1 kp_BX5_weightOf)
theorem kp_BX5_climbTo : KStm BX5_climbTo := by
  unfold BX5_climbTo
  exact (k_dRet (k_d2 k_cI (k_d2 (k_dCall kp_DX11_cell (k_aI (k_aR k_aN (k_dGR k_vR)) k_vI)) (k_dCall kp_DX11_cell (k_aI (k_aR k_aN (k_dGR k_vR)) k_vI)))))
theorem kp_DX5_climbTo : KExp DX5_climbTo := by
  unfold DX5_climbTo
  exact (k_M1 kp_BX5_climbTo)
theorem kp_BX2_loadTo : KStm BX2_loadTo := by
  unfold BX2_loadTo
  exact (k_dSeq (k_dSetI (k_dCallV kp_DX5_weightOf (k_aI (k_aI (k_aR k_aN k_vR) k_vI) (k_dCall kp_DX11_cell (k_aI (k_aR k_aN (k_dGR k_vR)) k_vI))))) (k_dRet (k_d2 k_vI (k_dCallV kp_DX5_climbTo (k_aI (k_aI (k_aR k_aN k_vR) (k_dCall kp_DX11_cell (k_aI (k_aR k_aN (k_dGR k_vR)) k_vI))) k_vI)))))
theorem kp_DX2_loadTo : KExp DX2_loadTo := by
  unfold DX2_loadTo
  exact (k_M1 kp_BX2_loadTo)
theorem kp_BX2_hindrance : KStm BX2_hindrance := by
  unfold BX2_hindrance
  exact (k_dSeq (k_dSetI (k_dCall kp_DX11_cell (k_aI (k_aR k_aN (k_dGR (k_dGR k_vR))) k_vI))) (k_dSeq (k_dSetI (k_dCall kp_DX11_cell (k_aI (k_aR k_aN (k_dGR (k_dGR k_vR))) k_vI))) (k_dSeq (k_dSetI (k_dCall kp_DX11_cell (k_aI (k_aR k_aN (k_dGR (k_dGR k_vR))) k_vI))) (k_dSeq (k_dSetI (k_dCall kp_DX11_cell (k_aI (k_aR k_aN (k_dGR k_vR)) k_vI))) (k_dSeq (k_dIf (k_dOr (k_dCZ (k_dCall kp_DX11_hasBit (k_aI (k_aI k_aN (k_dGI k_vR)) k_vI))) (k_dCZ (k_dCall kp_DX11_hasBit (k_aI (k_aI k_aN (k_dGI k_vR)) k_vI)))) (k_dRet k_cI) k_dSkip) (k_dSeq (k_dIf (k_dCI (k_dCall kp_DX11_cell (k_aI (k_aR k_aN (k_dGR k_vR)) k_vI)) k_vI) (k_dRet k_cI) k_dSkip) (k_dSeq (k_dIf (k_dOr (k_dCZ (k_dCall kp_DX11_hasBit (k_aI (k_aI k_aN (k_dGI k_vR)) k_vI))) (k_dNot (k_dCZ (k_dCall kp_DX11_hasBit (k_aI (k_aI k_aN (k_dCallV kp_DX5_doorsOf (k_aI (k_aI (k_aR k_aN k_vR) k_vI) (k_dGI k_vR)))) k_vI))))) (k_dRet k_cI) k_dSkip) (k_dRet (k_dT (k_dCI (k_dCallV kp_DX2_loadTo (k_aI (k_aI (k_aR (k_aR k_aN k_vR) k_vR) k_vI) k_vI)) (k_dCall kp_DX11_cell (k_aI (k_aR k_aN (k_dGR k_vR)) k_vI))) k_cI k_cI)))))))))
theorem kp_DX2_hindrance : KExp DX2_hindrance := by
  unfold DX2_hindrance
  exact (k_M1 kp_BX2_hindrance)
theorem kp_LX5_leftByLaw_1 : KStm LX5_leftByLaw_1 := by
  unfold LX5_leftByLaw_1
  exact (k_dLoop (k_dCI k_vI k_cI) (k_dSeq (k_dSetI (k_dT (k_dCZ (k_dCall kp_DX11_hasBit (k_aI (k_aI k_aN k_vI) k_vI))) (k_dCall kp_DX11_cell (k_aI (k_aR k_aN (k_dGR k_vR)) (k_d2 (k_d2 k_vI k_cI) k_vI))) k_cI)) (k_dSeq (k_dSetI (k_dB (k_dAnd (k_dCI k_vI k_cI) (k_dCZ k_vI)))) (k_dSeq (k_dSetI (k_dB (k_dAnd (k_dCI k_vI k_cI) (k_dCI k_vI k_vI)))) (k_dIf (k_dAnd (k_dCZ k_vI) (k_dOr (k_dOr (k_dCZ k_vI) (k_dCZ k_vI)) (k_dCI k_vI k_cI))) (k_dSeq (k_dSetI (k_d2 k_cI k_vI)) (k_dSetI k_vI)) k_dSkip)))) k_dInc)
theorem kp_BX5_leftByLaw : KStm BX5_leftByLaw := by
  unfold BX5_leftByLaw
  exact (k_dSeq (k_dSetI k_cI) (k_dSeq (k_dSetI k_cI) (k_dSeq (k_dSeq (k_dSetI k_cI) kp_LX5_leftByLaw_1) (k_dRet (k_d2 k_vI (k_d2 k_vI k_cI))))))
theorem kp_DX5_leftByLaw : KExp DX5_leftByLaw := by
  unfold DX5_leftByLaw
  exact (k_M1 kp_BX5_leftByLaw)
theorem kp_BX2_carryOut : KStm BX2_carryOut := by
  unfold BX2_carryOut
  exact (k_dSeq (k_dSetI (k_dCall kp_DX11_cell (k_aI (k_aR k_aN (k_dGR (k_dGR k_vR))) k_vI))) (k_dSeq (k_dSetI (k_dCall kp_DX11_cell (k_aI (k_aR k_aN (k_dGR (k_dGR k_vR))) k_vI))) (k_dSeq (k_dSetI (k_dCall kp_DX11_cell (k_aI (k_aR k_aN (k_dGR (k_dGR k_vR))) k_vI))) (k_dSeq (k_dDo (k_dCall kp_DX11_put (k_aI (k_aI (k_aR k_aN (k_dGR k_vR)) k_vI) (k_dCallV kp_DX2_loadTo (k_aI (k_aI (k_aR (k_aR k_aN k_vR) k_vR) k_vI) k_vI))))) (k_dSeq (k_dUF (by decide) k_vR (k_d2 k_cI k_vI)) (k_dSeq (k_dUF (by decide) k_vR (k_d2 k_cI k_vI)) (k_dSeq (k_dDo (k_dCall kp_DX11_put (k_aI (k_aI (k_aR k_aN (k_dGR k_vR)) k_vI) k_vI))) (k_dSeq (k_dDo (k_dCall kp_DX11_put (k_aI (k_aI (k_aR k_aN (k_dGR k_vR)) k_vI) k_vI))) (k_dSeq (k_dSetI (k_dCall kp_DX11_cell (k_aI (k_aR k_aN (k_dGR k_vR)) k_vI))) (k_dSeq (k_dIf (k_dCZ k_vI) (k_dSetI (k_d2 k_vI (k_d2 k_vI k_cI))) k_dSkip) (k_dSeq (k_dSetI (k_d2 (k_d2 k_vI k_cI) k_vI)) (k_dSeq (k_dDo (k_dCall kp_DX11_put (k_aI (k_aI (k_aR k_aN (k_dGR k_vR)) k_vI) (k_d2 (k_dCall kp_DX11_cell (k_aI (k_aR k_aN (k_dGR k_vR)) k_vI)) k_vI)))) (k_dSeq (k_dIf (k_dNot (k_dCZ (k_dCall kp_DX11_hasBit (k_aI (k_aI k_aN (k_dCall kp_DX11_cell (k_aI (k_aR k_aN (k_dGR k_vR)) k_vI))) k_vI)))) (k_dSeq (k_dDo (k_dCall kp_DX11_put (k_aI (k_aI (k_aR k_aN (k_dGR k_vR)) k_vI) (k_d2 (k_dCall kp_DX11_cell (k_aI (k_aR k_aN (k_dGR k_vR)) k_vI)) (k_d2 k_cI k_vI))))) (k_dSetI (k_dCallV kp_DX5_leftByLaw (k_aI (k_aI (k_aI (k_aR k_aN k_vR) k_vI) k_vI) (k_dGI k_vR))))) k_dSkip) (k_dSeq (k_dDo (k_dCall kp_DX11_put (k_aI (k_aI (k_aR k_aN (k_dGR k_vR)) k_vI) k_vI))) k_dRet0))))))))))))))
theorem kp_DX2_carryOut : KExp DX2_carryOut := by
  unfold DX2_carryOut
  exact (k_M1 kp_BX2_carryOut)
theorem kp_LX2_passDay_1 : KStm LX2_passDay_1 := by
  unfold LX2_passDay_1
  exact (k_dLoop (k_dAnd (k_dCI k_vI (k_dGI (k_dGR k_vR))) (k_dCI k_vI k_cI)) (k_dIf (k_dCI (k_dCall kp_DX11_cell (k_aI (k_aR k_aN (k_dGR (k_dGR k_vR))) k_vI)) k_vI) (k_dSeq (k_dSetI (k_dCallV kp_DX2_hindrance (k_aI (k_aR (k_aR k_aN k_vR) k_vR) k_vI))) (k_dSeq (k_dDo (k_dCall kp_DX11_put (k_aI (k_aI (k_aR k_aN (k_dGR k_vR)) k_vI) k_vI))) (k_dIf (k_dCZ k_vI) (k_dDo (k_dCallV kp_DX2_carryOut (k_aI (k_aI (k_aR (k_aR k_aN k_vR) k_vR) k_vI) (k_dCall kp_DX11_hasBit (k_aI (k_aI k_aN (k_dGI k_vR)) k_vI))))) k_dSkip))) k_dSkip) k_dInc)
theorem kp_BX2_passDay : KStm BX2_passDay := by
  unfold BX2_passDay
  exact (k_dSeq (k_dP (k_fI (by decide)) k_vR k_cI) (k_dSeq (k_dP (k_fI (by decide)) k_vR k_cI) (k_dSeq (k_dSeq (k_dSetI k_cI) kp_LX2_passDay_1) k_dRet0)))
theorem kp_DX2_passDay : KExp DX2_passDay := by
  unfold DX2_passDay
  exact (k_M1 kp_BX2_passDay)
theorem kp_LX3_fill_1 : KStm LX3_fill_1 := by
  unfold LX3_fill_1
  exact (k_dLoop (k_dAnd (k_dCI k_vI (k_dGI k_vR)) (k_dCI k_vI k_cI)) (k_dSeq (k_dDo (k_dCallV kp_DX3_note (k_aI (k_aR k_aN k_vR) k_vI))) (k_dIf (k_dCI k_vI (k_dGI k_vR)) (k_dSeq (k_dDo (k_dCallV kp_DX2_passDay (k_aI (k_aR (k_aR k_aN (k_dGR k_vR)) k_vR) k_vI))) (k_dDo (k_dCall kp_DX11_put (k_aI (k_aI (k_aR k_aN (k_dGR k_vR)) k_vI) (k_dGI (k_dGR k_vR)))))) k_dSkip)) k_dInc)
theorem kp_BX3_fill : KStm BX3_fill := by
  unfold BX3_fill
  exact (k_dSeq (k_dDo (k_dCallV kp_DX2_begin (k_aR (k_aR k_aN (k_dGR k_vR)) k_vR))) (k_dSeq (k_dSeq (k_dSetI k_cI) kp_LX3_fill_1) k_dRet0))
theorem kp_DX3_fill : KExp DX3_fill := by
  unfold DX3_fill
  exact (k_M1 kp_BX3_fill)
theorem kp_BX3_slateOn : KStm BX3_slateOn := by
  unfold BX3_slateOn
  exact (k_dRet (k_dCall kp_DX11_cell (k_aI (k_aR k_aN (k_dGR k_vR)) (k_d2 (k_d2 k_vI k_cI) k_vI))))
theorem kp_DX3_slateOn : KExp DX3_slateOn := by
  unfold DX3_slateOn
  exact (k_M1 kp_BX3_slateOn)
theorem kp_LX7_findFirsts_1 : KStm LX7_findFirsts_1 := by
  unfold LX7_findFirsts_1
  exact (k_dLoop (k_dCI k_vI (k_dGI k_vR)) (k_dDo (k_dCall kp_DX11_put (k_aI (k_aI (k_aR k_aN (k_dGR k_vR)) (k_d2 (k_d2 k_vI k_cI) k_vI)) (k_dCallV kp_DX3_slateOn (k_aI (k_aI (k_aR k_aN k_vR) k_vI) k_vI))))) k_dInc)
theorem kp_LX7_isAsSeen_1 : KStm LX7_isAsSeen_1 := by
  unfold LX7_isAsSeen_1
  exact (k_dLoop (k_dCI k_vI (k_dCallV kp_DX8_sizeOf (k_aI (k_aR k_aN k_vR) k_vI))) (k_dSeq (k_dSetI (k_d1 (k_dCallV kp_DX8_numberAt (k_aI (k_aI (k_aR k_aN k_vR) k_vI) k_vI)))) (k_dIf (k_dCZ (k_d2 (k_d1 (k_dCallV kp_DX3_slateOn (k_aI (k_aI (k_aR k_aN k_vR) k_vI) k_vI))) (k_dCallV kp_DX8_numberAt (k_aI (k_aI (k_aR k_aN k_vR) k_vI) (k_d2 k_vI k_cI))))) (k_dRet k_cI) k_dSkip)) k_dInc)
theorem kp_BX7_isAsSeen : KStm BX7_isAsSeen := by
  unfold BX7_isAsSeen
  exact (k_dSeq (k_dSeq (k_dSetI k_cI) kp_LX7_isAsSeen_1) (k_dRet k_cI))
theorem kp_DX7_isAsSeen : KExp DX7_isAsSeen := by
  unfold DX7_isAsSeen
  exact (k_MZ kp_BX7_isAsSeen)
theorem kp_LX7_findFirsts_2 : KStm LX7_findFirsts_2 := by
  unfold LX7_findFirsts_2
  exact (k_dLoop (k_dCI k_vI (k_dGI k_vR)) (k_dSeq (k_dDo (k_dCallV kp_DX2_setAsTold (k_aR (k_aR k_aN (k_dGR k_vR)) k_vR))) (k_dSeq (k_dP (k_fI (by decide)) (k_dGR k_vR) k_vI) (k_dSeq (k_dP (k_fI (by decide)) (k_dGR k_vR) k_vI) (k_dSeq (k_dDo (k_dCallV kp_DX3_fill (k_aR (k_aR k_aN k_vR) k_vR))) (k_dSeq (k_dSeq (k_dSetI k_cI) kp_LX7_findFirsts_1) (k_dIf (k_dCZ (k_dCallV kp_DX7_isAsSeen (k_aR (k_aI (k_aI (k_aR (k_aR k_aN k_vR) k_vR) k_vI) k_vI) k_vR))) (k_dUF (by decide) k_vR (k_d2 k_cI k_vI)) k_dSkip)))))) k_dInc)
theorem kp_BX7_findFirsts : KStm BX7_findFirsts := by
  unfold BX7_findFirsts
  exact (k_dSeq (k_dP (k_fI (by decide)) k_vR k_cI) (k_dSeq (k_dSeq (k_dSetI k_cI) kp_LX7_findFirsts_2) k_dRet0))
theorem kp_DX7_findFirsts : KExp DX7_findFirsts := by
  unfold DX7_findFirsts
  exact (k_M1 kp_BX7_findFirsts)
theorem kp_BJ6_bitCount_0f7a4 : KStm BJ6_bitCount_0f7a4 := by
  unfold BJ6_bitCount_0f7a4
  exact (k_dSeq (k_dSetI (k_d2 k_vI (k_d2 (k_d2 k_vI k_cI) k_cI))) (k_dSeq (k_dSetI (k_d2 (k_d2 k_vI k_cI) (k_d2 (k_d2 k_vI k_cI) k_cI))) (k_dSeq (k_dSetI (k_d2 (k_d2 k_vI (k_d2 k_vI k_cI)) k_cI)) (k_dSeq (k_dSetI (k_d2 k_vI (k_d2 k_vI k_cI))) (k_dSeq (k_dSetI (k_d2 k_vI (k_d2 k_vI k_cI))) (k_dRet (k_d2 k_vI k_cI)))))))
theorem kp_DJ6_bitCount_0f7a4 : KExp DJ6_bitCount_0f7a4 := by
  unfold DJ6_bitCount_0f7a4
  exact (k_M1 kp_BJ6_bitCount_0f7a4)
theorem kp_LX7_leftAtWorst_1 : KStm LX7_leftAtWorst_1 := by
  unfold LX7_leftAtWorst_1
  exact (k_dLoop (k_dCI k_vI k_cI) (k_dIf (k_dAnd (k_dCZ (k_dCall kp_DX11_hasBit (k_aI (k_aI k_aN (k_dGI k_vR)) k_vI))) (k_dCI (k_dCall kp_DX11_cell (k_aI (k_aR k_aN (k_dGR k_vR)) (k_d2 (k_d2 k_vI k_cI) k_vI))) k_vI)) k_dInc k_dSkip) k_dInc)
theorem kp_LX7_leftAtWorst_2 : KStm LX7_leftAtWorst_2 := by
  unfold LX7_leftAtWorst_2
  exact (k_dLoop (k_dCI k_vI k_cI) (k_dSeq (k_dSetI k_cI) (k_dSeq (k_dSeq (k_dSetI k_cI) kp_LX7_leftAtWorst_1) (k_dSetI (k_d2 k_vI k_vI)))) k_dInc)
theorem kp_BX7_leftAtWorst : KStm BX7_leftAtWorst := by
  unfold BX7_leftAtWorst
  exact (k_dSeq (k_dSetI k_cI) (k_dSeq (k_dSeq (k_dSetI k_cI) kp_LX7_leftAtWorst_2) (k_dRet k_vI)))
theorem kp_DX7_leftAtWorst : KExp DX7_leftAtWorst := by
  unfold DX7_leftAtWorst
  exact (k_M1 kp_BX7_leftAtWorst)
theorem kp_LX7_bestDay_1 : KStm LX7_bestDay_1 := by
  unfold LX7_bestDay_1
  exact (k_dLoop (k_dCI k_vI (k_dGI k_vR)) (k_dSeq (k_dSetI (k_dCallV kp_DX7_leftAtWorst (k_aI (k_aR k_aN k_vR) k_vI))) (k_dIf (k_dCI k_vI k_vI) (k_dSeq (k_dSetI k_vI) (k_dSetI k_vI)) k_dSkip)) k_dInc)
theorem kp_BX7_bestDay : KStm BX7_bestDay := by
  unfold BX7_bestDay
  exact (k_dSeq (k_dSetI k_cI) (k_dSeq (k_dSetI (k_dCall kp_DJ6_bitCount_0f7a4 (k_aI k_aN (k_dGI k_vR)))) (k_dSeq (k_dSeq (k_dSetI k_cI) kp_LX7_bestDay_1) (k_dRet k_vI))))
theorem kp_DX7_bestDay : KExp DX7_bestDay := by
  unfold DX7_bestDay
  exact (k_M1 kp_BX7_bestDay)
theorem kp_BX11_ask : KStm BX11_ask := by
  unfold BX11_ask
  exact (k_dSeq (k_dSetI (k_dCallV kp_DX7_wrongRow (k_aI (k_aI (k_aR (k_aR (k_aR k_aN (k_dGR k_vR)) (k_dGR k_vR)) (k_dGR k_vR)) k_vI) k_vI))) (k_dSeq (k_dIf (k_dCZ k_vI) (k_dRet k_vI) k_dSkip) (k_dSeq (k_dDo (k_dCallV kp_DX7_findFirsts (k_aR (k_aI (k_aI (k_aR (k_aR (k_aR k_aN (k_dGR k_vR)) (k_dGR k_vR)) (k_dGR k_vR)) k_vI) k_vI) (k_dGR k_vR)))) (k_dRet (k_dCallV kp_DX7_bestDay (k_aR (k_aR k_aN (k_dGR k_vR)) (k_dGR k_vR)))))))
theorem kp_DX11_ask : KExp DX11_ask := by
  unfold DX11_ask
  exact (k_M1 kp_BX11_ask)
theorem kp_BX5_isCarrier : KStm BX5_isCarrier := by
  unfold BX5_isCarrier
  exact (k_dRet (k_dB (k_dAnd (k_dCZ k_vI) (k_dCI k_vI (k_dGI k_vR)))))
theorem kp_DX5_isCarrier : KExp DX5_isCarrier := by
  unfold DX5_isCarrier
  exact (k_MZ kp_BX5_isCarrier)
theorem kp_BX5_isDay : KStm BX5_isDay := by
  unfold BX5_isDay
  exact (k_dRet (k_dB (k_dAnd (k_dAnd (k_dCZ (k_dCallV kp_DX5_isTold (k_aR k_aN k_vR))) (k_dCZ k_vI)) (k_dCI k_vI (k_dGI k_vR)))))
theorem kp_DX5_isDay : KExp DX5_isDay := by
  unfold DX5_isDay
  exact (k_MZ kp_BX5_isDay)
theorem kp_BX3_carrierOn : KStm BX3_carrierOn := by
  unfold BX3_carrierOn
  exact (k_dRet (k_dCall kp_DX11_cell (k_aI (k_aR k_aN (k_dGR k_vR)) (k_d2 (k_d2 k_vI k_cI) k_vI))))
theorem kp_DX3_carrierOn : KExp DX3_carrierOn := by
  unfold DX3_carrierOn
  exact (k_M1 kp_BX3_carrierOn)
theorem kp_BX11_today : KStm BX11_today := by
  unfold BX11_today
  exact (k_dSeq (k_dIf (k_dNot (k_dCZ (k_dGI (k_dGR k_vR)))) (k_dSeq (k_dDo (k_dCallV kp_DX2_setAsTold (k_aR (k_aR k_aN (k_dGR (k_dGR k_vR))) (k_dGR k_vR)))) (k_dSeq (k_dDo (k_dCallV kp_DX3_fill (k_aR (k_aR k_aN (k_dGR k_vR)) (k_dGR k_vR)))) (k_dP (k_fZ (by decide)) (k_dGR k_vR) k_cI))) k_dSkip) (k_dRet (k_dGR k_vR)))
theorem kp_DX11_today : KExp DX11_today := by
  unfold DX11_today
  exact (k_M1 kp_BX11_today)
theorem kp_BX11_at : KStm BX11_at := by
  unfold BX11_at
  exact (k_dSeq (k_dIf (k_dOr (k_dNot (k_dCZ (k_dCallV kp_DX5_isCarrier (k_aI (k_aR k_aN (k_dGR k_vR)) k_vI)))) (k_dNot (k_dCZ (k_dCallV kp_DX5_isDay (k_aI (k_aR k_aN (k_dGR k_vR)) k_vI))))) (k_dRet k_cI) k_dSkip) (k_dRet (k_dCallV kp_DX3_carrierOn (k_aI (k_aI (k_aR k_aN (k_dCallV kp_DX11_today (k_aR k_aN k_vR))) k_vI) k_vI))))
theorem kp_DX11_at : KExp DX11_at := by
  unfold DX11_at
  exact (k_M1 kp_BX11_at)
theorem kp_BX1_copy : KStm BX1_copy := by
  unfold BX1_copy
  exact (k_dSeq (k_dIf (k_dNot (k_dNN k_vR)) k_dRet0 k_dSkip) (k_dSeq (k_dP (k_fI (by decide)) k_vR (k_dGI k_vR)) (k_dSeq (k_dP (k_fI (by decide)) k_vR (k_dGI k_vR)) (k_dSeq (k_dP (k_fI (by decide)) k_vR (k_dGI k_vR)) (k_dSeq (k_dCp (by decide) (k_aI (k_aI (k_aR (k_aI (k_aR k_aN (k_dGR k_vR)) k_cI) (k_dGR k_vR)) k_cI) k_cI)) (k_dSeq (k_dCp (by decide) (k_aI (k_aI (k_aR (k_aI (k_aR k_aN (k_dGR k_vR)) k_cI) (k_dGR k_vR)) k_cI) k_cI)) (k_dSeq (k_dCp (by decide) (k_aI (k_aI (k_aR (k_aI (k_aR k_aN (k_dGR k_vR)) k_cI) (k_dGR k_vR)) k_cI) k_cI)) (k_dSeq (k_dCp (by decide) (k_aI (k_aI (k_aR (k_aI (k_aR k_aN (k_dGR k_vR)) k_cI) (k_dGR k_vR)) k_cI) k_cI)) (k_dSeq (k_dCp (by decide) (k_aI (k_aI (k_aR (k_aI (k_aR k_aN (k_dGR k_vR)) k_cI) (k_dGR k_vR)) k_cI) k_cI)) (k_dSeq (k_dCp (by decide) (k_aI (k_aI (k_aR (k_aI (k_aR k_aN (k_dGR k_vR)) k_cI) (k_dGR k_vR)) k_cI) k_cI)) k_dRet0))))))))))
theorem kp_DX1_copy : KExp DX1_copy := by
  unfold DX1_copy
  exact (k_M1 kp_BX1_copy)
theorem kp_BX5_copy : KStm BX5_copy := by
  unfold BX5_copy
  exact (k_dSeq (k_dIf (k_dNot (k_dNN k_vR)) k_dRet0 k_dSkip) (k_dSeq (k_dP (k_fI (by decide)) k_vR (k_dGI k_vR)) (k_dSeq (k_dP (k_fI (by decide)) k_vR (k_dGI k_vR)) (k_dSeq (k_dP (k_fI (by decide)) k_vR (k_dGI k_vR)) (k_dSeq (k_dP (k_fI (by decide)) k_vR (k_dGI k_vR)) (k_dSeq (k_dP (k_fI (by decide)) k_vR (k_dGI k_vR)) (k_dSeq (k_dP (k_fI (by decide)) k_vR (k_dGI k_vR)) (k_dSeq (k_dP (k_fI (by decide)) k_vR (k_dGI k_vR)) (k_dSeq (k_dP (k_fI (by decide)) k_vR (k_dGI k_vR)) (k_dSeq (k_dCp (by decide) (k_aI (k_aI (k_aR (k_aI (k_aR k_aN (k_dGR k_vR)) k_cI) (k_dGR k_vR)) k_cI) k_cI)) (k_dSeq (k_dCp (by decide) (k_aI (k_aI (k_aR (k_aI (k_aR k_aN (k_dGR k_vR)) k_cI) (k_dGR k_vR)) k_cI) k_cI)) (k_dSeq (k_dCp (by decide) (k_aI (k_aI (k_aR (k_aI (k_aR k_aN (k_dGR k_vR)) k_cI) (k_dGR k_vR)) k_cI) k_cI)) (k_dSeq (k_dCp (by decide) (k_aI (k_aI (k_aR (k_aI (k_aR k_aN (k_dGR k_vR)) k_cI) (k_dGR k_vR)) k_cI) k_cI)) (k_dSeq (k_dCp (by decide) (k_aI (k_aI (k_aR (k_aI (k_aR k_aN (k_dGR k_vR)) k_cI) (k_dGR k_vR)) k_cI) k_cI)) (k_dSeq (k_dCp (by decide) (k_aI (k_aI (k_aR (k_aI (k_aR k_aN (k_dGR k_vR)) k_cI) (k_dGR k_vR)) k_cI) k_cI)) (k_dSeq (k_dCp (by decide) (k_aI (k_aI (k_aR (k_aI (k_aR k_aN (k_dGR k_vR)) k_cI) (k_dGR k_vR)) k_cI) k_cI)) (k_dSeq (k_dCp (by decide) (k_aI (k_aI (k_aR (k_aI (k_aR k_aN (k_dGR k_vR)) k_cI) (k_dGR k_vR)) k_cI) k_cI)) (k_dSeq (k_dDo (k_dCallV kp_DX1_copy (k_aR (k_aR k_aN (k_dGR k_vR)) (k_dGR k_vR)))) k_dRet0))))))))))))))))))
theorem kp_DX5_copy : KExp DX5_copy := by
  unfold DX5_copy
  exact (k_M1 kp_BX5_copy)
theorem kp_BX11_back : KStm BX11_back := by
  unfold BX11_back
  exact (k_dSeq (k_dIf (k_dOr (k_dCZ k_vI) (k_dCI k_vI (k_dLen (k_dGR k_vR)))) (k_dRet k_cI) k_dSkip) (k_dSeq (k_dIf (k_dNot (k_dNN (k_dAR (k_dGR k_vR) k_vI))) (k_dRet k_cI) k_dSkip) (k_dSeq (k_dDo (k_dCallV kp_DX5_copy (k_aR (k_aR k_aN (k_dGR k_vR)) (k_dAR (k_dGR k_vR) k_vI)))) (k_dSeq (k_dDo (k_dCallV kp_DX11_makeStale (k_aR k_aN k_vR))) (k_dRet k_cI)))))
theorem kp_DX11_back : KExp DX11_back := by
  unfold DX11_back
  exact (k_M1 kp_BX11_back)
theorem kp_BX3_knownOn : KStm BX3_knownOn := by
  unfold BX3_knownOn
  exact (k_dRet (k_dCall kp_DX11_cell (k_aI (k_aR k_aN (k_dGR k_vR)) (k_d2 (k_d2 (k_d2 (k_d2 k_vI k_cI) k_vI) k_cI) k_vI))))
theorem kp_DX3_knownOn : KExp DX3_knownOn := by
  unfold DX3_knownOn
  exact (k_M1 kp_BX3_knownOn)
theorem kp_LX11_beside_1 : KStm LX11_beside_1 := by
  unfold LX11_beside_1
  exact (k_dLoop (k_dCI k_vI (k_dGI (k_dGR k_vR))) (k_dSeq (k_dSetI (k_dCall kp_DJ6_bitCount_0f7a4 (k_aI k_aN (k_dCallV kp_DX3_knownOn (k_aI (k_aI (k_aI (k_aR k_aN (k_dCallV kp_DX11_today (k_aR k_aN k_vR))) k_vI) k_vI) (k_dGI (k_dGR k_vR))))))) (k_dIf (k_dAnd (k_dCI k_vI (k_dCall kp_DX11_cell (k_aI (k_aR k_aN (k_dGR (k_dGR k_vR))) k_vI))) (k_dCI k_vI k_vI)) (k_dSeq (k_dSetI k_vI) (k_dSetI k_vI)) k_dSkip)) k_dInc)
theorem kp_BX11_beside : KStm BX11_beside := by
  unfold BX11_beside
  exact (k_dSeq (k_dIf (k_dNot (k_dCZ (k_dCallV kp_DX5_isSlate (k_aI (k_aR k_aN (k_dGR k_vR)) k_vI)))) (k_dRet k_cI) k_dSkip) (k_dSeq (k_dSetI k_cI) (k_dSeq (k_dSetI k_cI) (k_dSeq (k_dSeq (k_dSetI k_cI) kp_LX11_beside_1) (k_dRet k_vI)))))
theorem kp_DX11_beside : KExp DX11_beside := by
  unfold DX11_beside
  exact (k_M1 kp_BX11_beside)
theorem kp_LX3_hearersOn_1 : KStm LX3_hearersOn_1 := by
  unfold LX3_hearersOn_1
  exact (k_dLoop (k_dCI k_vI (k_dGI k_vR)) (k_dIf (k_dCZ (k_dCallV kp_DX3_knownOn (k_aI (k_aI (k_aI (k_aR k_aN k_vR) k_vI) k_vI) k_vI))) (k_dSetI (k_d2 k_vI (k_d2 k_cI k_vI))) k_dSkip) k_dInc)
theorem kp_BX3_hearersOn : KStm BX3_hearersOn := by
  unfold BX3_hearersOn
  exact (k_dSeq (k_dSetI k_cI) (k_dSeq (k_dSeq (k_dSetI k_cI) kp_LX3_hearersOn_1) (k_dRet k_vI)))
theorem kp_DX3_hearersOn : KExp DX3_hearersOn := by
  unfold DX3_hearersOn
  exact (k_M1 kp_BX3_hearersOn)
theorem kp_BX11_hearersWithout : KStm BX11_hearersWithout := by
  unfold BX11_hearersWithout
  exact (k_dSeq (k_dDo (k_dCallV kp_DX2_setAsTold (k_aR (k_aR k_aN (k_dGR (k_dGR k_vR))) (k_dGR k_vR)))) (k_dSeq (k_dP (k_fI (by decide)) (k_dGR (k_dGR k_vR)) k_vI) (k_dSeq (k_dDo (k_dCallV kp_DX3_fill (k_aR (k_aR k_aN (k_dGR k_vR)) (k_dGR k_vR)))) (k_dRet (k_dCallV kp_DX3_hearersOn (k_aI (k_aI (k_aR (k_aR k_aN (k_dGR k_vR)) (k_dGR k_vR)) k_vI) (k_dGI (k_dGR k_vR))))))))
theorem kp_DX11_hearersWithout : KExp DX11_hearersWithout := by
  unfold DX11_hearersWithout
  exact (k_M1 kp_BX11_hearersWithout)
theorem kp_LX11_block_1 : KStm LX11_block_1 := by
  unfold LX11_block_1
  exact (k_dLoop (k_dCI k_vI (k_dGI (k_dGR k_vR))) (k_dSeq (k_dSetI (k_dCall kp_DJ6_bitCount_0f7a4 (k_aI k_aN (k_dCallV kp_DX11_hearersWithout (k_aI (k_aI (k_aR k_aN k_vR) k_vI) k_vI))))) (k_dIf (k_dCI k_vI k_vI) (k_dSeq (k_dSetI k_vI) (k_dSetI k_vI)) k_dSkip)) k_dInc)
theorem kp_BX11_block : KStm BX11_block := by
  unfold BX11_block
  exact (k_dSeq (k_dIf (k_dNot (k_dCZ (k_dCallV kp_DX5_isSlate (k_aI (k_aR k_aN (k_dGR k_vR)) k_vI)))) (k_dRet k_cI) k_dSkip) (k_dSeq (k_dSetI k_cI) (k_dSeq (k_dSetI (k_dCall kp_DJ6_bitCount_0f7a4 (k_aI k_aN (k_dCallV kp_DX3_hearersOn (k_aI (k_aI (k_aR (k_aR k_aN (k_dCallV kp_DX11_today (k_aR k_aN k_vR))) (k_dGR k_vR)) k_vI) (k_dGI (k_dGR k_vR))))))) (k_dSeq (k_dSeq (k_dSetI k_cI) kp_LX11_block_1) (k_dRet k_vI)))))
theorem kp_DX11_block : KExp DX11_block := by
  unfold DX11_block
  exact (k_M1 kp_BX11_block)
theorem kp_BX11_areAlone : KStm BX11_areAlone := by
  unfold BX11_areAlone
  exact (k_dRet (k_dB (k_dAnd (k_dCZ (k_dCallV kp_DX5_isCarrier (k_aI (k_aR k_aN (k_dGR k_vR)) k_vI))) (k_dCZ (k_dCallV kp_DX5_isSlate (k_aI (k_aR k_aN (k_dGR k_vR)) k_vI))))))
theorem kp_DX11_areAlone : KExp DX11_areAlone := by
  unfold DX11_areAlone
  exact (k_MZ kp_BX11_areAlone)
theorem kp_BX5_isHouse : KStm BX5_isHouse := by
  unfold BX5_isHouse
  exact (k_dRet (k_dB (k_dAnd (k_dCZ k_vI) (k_dCI k_vI (k_dGI k_vR)))))
theorem kp_DX5_isHouse : KExp DX5_isHouse := by
  unfold DX5_isHouse
  exact (k_MZ kp_BX5_isHouse)
theorem kp_LX0_prepare_1 : KStm LX0_prepare_1 := by
  unfold LX0_prepare_1
  exact (k_dLoop (k_dCI k_vI k_cI) (k_dSeq (k_dDo (k_dCall kp_DX11_put (k_aI (k_aI (k_aR k_aN (k_dGR k_vR)) k_vI) (k_dCallV kp_DX5_weightOf (k_aI (k_aI (k_aR k_aN k_vR) k_vI) k_vI))))) (k_dSeq (k_dDo (k_dCall kp_DX11_put (k_aI (k_aI (k_aR k_aN (k_dGR k_vR)) k_vI) (k_dCall kp_DJ6_bitCount_0f7a4 (k_aI k_aN k_vI))))) (k_dSetI (k_dCallV kp_DX5_leftByLaw (k_aI (k_aI (k_aI (k_aR k_aN k_vR) k_vI) k_vI) (k_dGI k_vR)))))) k_dInc)
theorem kp_LX0_prepare_2 : KStm LX0_prepare_2 := by
  unfold LX0_prepare_2
  exact (k_dLoop (k_dCI k_vI (k_dGI k_vR)) (k_dDo (k_dCall kp_DX11_put (k_aI (k_aI (k_aR k_aN (k_dGR k_vR)) k_vI) (k_dCallV kp_DX5_doorsOf (k_aI (k_aI (k_aR k_aN k_vR) k_vI) k_cI))))) k_dInc)
theorem kp_BX0_prepare : KStm BX0_prepare := by
  unfold BX0_prepare
  exact (k_dSeq (k_dDo (k_dCall kp_DJ7_fill_53178 (k_aI (k_aR k_aN (k_dGR k_vR)) k_cI))) (k_dSeq (k_dSetI (k_dCallV kp_DX5_leftAtFirst (k_aI (k_aR k_aN k_vR) k_vI))) (k_dSeq (k_dSeq (k_dSetI k_cI) kp_LX0_prepare_1) (k_dSeq (k_dSeq (k_dSetI k_cI) kp_LX0_prepare_2) k_dRet0))))
theorem kp_DX0_prepare : KExp DX0_prepare := by
  unfold DX0_prepare
  exact (k_M1 kp_BX0_prepare)
theorem kp_BX0_markSeen : KStm BX0_markSeen := by
  unfold BX0_markSeen
  exact (k_dSeq (k_dSetI (k_dCall kp_DX11_cell (k_aI (k_aR k_aN (k_dGR k_vR)) k_vI))) (k_dSeq (k_dDo (k_dCall kp_DX11_put (k_aI (k_aI (k_aR k_aN (k_dGR k_vR)) k_vI) (k_d2 k_vI (k_d2 k_cI k_vI))))) (k_dRet (k_dB (k_dNot (k_dCZ (k_dCall kp_DX11_hasBit (k_aI (k_aI k_aN k_vI) k_vI))))))))
theorem kp_DX0_markSeen : KExp DX0_markSeen := by
  unfold DX0_markSeen
  exact (k_MZ kp_BX0_markSeen)
theorem kp_BX0_enter : KStm BX0_enter := by
  unfold BX0_enter
  exact (k_dSeq (k_dIf (k_dOr (k_dNot (k_dCZ (k_dCallV kp_DX0_markSeen (k_aI (k_aI (k_aR k_aN k_vR) k_vI) k_vI)))) (k_dCI (k_dGI k_vR) (k_dLen (k_dGR k_vR)))) k_dRet0 k_dSkip) (k_dSeq (k_dDo (k_dCall kp_DX11_put (k_aI (k_aI (k_aR k_aN (k_dGR k_vR)) (k_dGI k_vR)) (k_d2 (k_d2 k_vI (k_d2 k_vI k_cI)) (k_d2 k_vI k_cI))))) (k_dSeq (k_dUF (by decide) k_vR k_cI) (k_dSeq (k_dIf (k_dCI k_vI k_cI) (k_dDo (k_dCall kp_DX11_put (k_aI (k_aI (k_aR k_aN (k_dGR k_vR)) k_vI) (k_d2 (k_dCall kp_DX11_cell (k_aI (k_aR k_aN (k_dGR k_vR)) k_vI)) (k_dCall kp_DJ6_bitCount_0f7a4 (k_aI k_aN k_vI)))))) k_dSkip) k_dRet0))))
theorem kp_DX0_enter : KExp DX0_enter := by
  unfold DX0_enter
  exact (k_M1 kp_BX0_enter)
theorem kp_BX0_houseOf : KStm BX0_houseOf := by
  unfold BX0_houseOf
  exact (k_dRet (k_d2 k_vI k_cI))
theorem kp_DX0_houseOf : KExp DX0_houseOf := by
  unfold DX0_houseOf
  exact (k_M1 kp_BX0_houseOf)
theorem kp_BX0_setOf : KStm BX0_setOf := by
  unfold BX0_setOf
  exact (k_dRet (k_d2 (k_d2 k_vI k_cI) k_cI))
theorem kp_DX0_setOf : KExp DX0_setOf := by
  unfold DX0_setOf
  exact (k_M1 kp_BX0_setOf)
theorem kp_LX0_leave_1 : KStm LX0_leave_1 := by
  unfold LX0_leave_1
  exact (k_dLoop (k_dCI k_vI (k_dGI k_vR)) (k_dSeq (k_dSetI (k_dCall kp_DX11_hasBit (k_aI (k_aI k_aN (k_dCall kp_DX11_cell (k_aI (k_aR k_aN (k_dGR k_vR)) k_vI))) k_vI))) (k_dSeq (k_dIf (k_dOr (k_dNot (k_dCZ k_vI)) (k_dCI (k_d2 (k_dCall kp_DX11_cell (k_aI (k_aR k_aN (k_dGR k_vR)) k_vI)) (k_dCallV kp_DX5_climbTo (k_aI (k_aI (k_aR k_aN k_vR) k_vI) k_vI))) k_vI)) k_dCnt k_dSkip) (k_dSeq (k_dIf (k_dCI (k_dCall kp_DX11_cell (k_aI (k_aR k_aN (k_dGR k_vR)) k_vI)) k_cI) (k_dDo (k_dCall kp_DX11_put (k_aI (k_aI (k_aR k_aN (k_dGR k_vR)) k_vI) k_vI))) k_dSkip) (k_dSeq (k_dIf (k_dNot (k_dCZ (k_dCall kp_DX11_hasBit (k_aI (k_aI k_aN k_vI) k_vI)))) (k_dDo (k_dCall kp_DX11_put (k_aI (k_aI (k_aR k_aN (k_dGR k_vR)) k_vI) (k_d2 (k_dCall kp_DX11_cell (k_aI (k_aR k_aN (k_dGR k_vR)) k_vI)) (k_dCall kp_DX11_cell (k_aI (k_aR k_aN (k_dGR k_vR)) k_vI)))))) k_dSkip) (k_dDo (k_dCallV kp_DX0_enter (k_aI (k_aI (k_aI (k_aR k_aN k_vR) k_vI) (k_d2 k_vI (k_d2 k_cI k_vI))) k_vI))))))) k_dInc)
theorem kp_BX0_leave : KStm BX0_leave := by
  unfold BX0_leave
  exact (k_dSeq (k_dSetI (k_dCall kp_DX0_houseOf (k_aI k_aN k_vI))) (k_dSeq (k_dSetI (k_dCall kp_DX0_setOf (k_aI k_aN k_vI))) (k_dSeq (k_dSetI (k_d2 (k_d2 k_vI k_cI) k_cI)) (k_dSeq (k_dSetI (k_dCall kp_DJ6_bitCount_0f7a4 (k_aI k_aN k_vI))) (k_dSeq (k_dSeq (k_dSetI k_cI) kp_LX0_leave_1) k_dRet0)))))
theorem kp_DX0_leave : KExp DX0_leave := by
  unfold DX0_leave
  exact (k_M1 kp_BX0_leave)
theorem kp_LX0_search_1 : KStm LX0_search_1 := by
  unfold LX0_search_1
  exact (k_dLoop (k_dAnd (k_dCI k_vI (k_dGI k_vR)) (k_dCI k_vI (k_dLen (k_dGR k_vR)))) (k_dDo (k_dCallV kp_DX0_leave (k_aI (k_aI (k_aR (k_aR k_aN k_vR) k_vR) (k_dAI (k_dGR k_vR) k_vI)) k_vI))) k_dInc)
theorem kp_BX0_search : KStm BX0_search := by
  unfold BX0_search
  exact (k_dSeq (k_dIf (k_dAnd (k_dCI (k_dGI k_vR) k_vI) (k_dCI (k_dGI k_vR) k_vI)) k_dRet0 k_dSkip) (k_dSeq (k_dP (k_fI (by decide)) k_vR k_vI) (k_dSeq (k_dP (k_fI (by decide)) k_vR k_vI) (k_dSeq (k_dDo (k_dCallV kp_DX0_prepare (k_aI (k_aR (k_aR k_aN k_vR) k_vR) k_vI))) (k_dSeq (k_dDo (k_dCall kp_DJ7_fill_53178 (k_aI (k_aR k_aN (k_dGR k_vR)) k_cI))) (k_dSeq (k_dDo (k_dCall kp_DJ7_fill_53178 (k_aI (k_aR k_aN (k_dGR k_vR)) k_cI))) (k_dSeq (k_dDo (k_dCall kp_DJ7_fill_53178 (k_aI (k_aR k_aN (k_dGR k_vR)) k_cI))) (k_dSeq (k_dP (k_fI (by decide)) k_vR k_cI) (k_dSeq (k_dSetI (k_dCall kp_DX11_cell (k_aI (k_aR k_aN (k_dGR k_vR)) k_vI))) (k_dSeq (k_dDo (k_dCall kp_DX11_put (k_aI (k_aI (k_aR k_aN (k_dGR k_vR)) k_vI) k_cI))) (k_dSeq (k_dDo (k_dCall kp_DX11_put (k_aI (k_aI (k_aR k_aN (k_dGR k_vR)) k_vI) (k_dCall kp_DX11_cell (k_aI (k_aR k_aN (k_dGR k_vR)) k_cI))))) (k_dSeq (k_dDo (k_dCallV kp_DX0_enter (k_aI (k_aI (k_aI (k_aR k_aN k_vR) k_vI) (k_d2 k_cI k_vI)) k_cI))) (k_dSeq (k_dSeq (k_dSetI k_cI) kp_LX0_search_1) k_dRet0)))))))))))))
theorem kp_DX0_search : KExp DX0_search := by
  unfold DX0_search
  exact (k_M1 kp_BX0_search)
theorem kp_BX11_brings : KStm BX11_brings := by
  unfold BX11_brings
  exact (k_dSeq (k_dIf (k_dOr (k_dNot (k_dCZ (k_dCallV kp_DX11_areAlone (k_aI (k_aI (k_aR k_aN k_vR) k_vI) k_vI)))) (k_dNot (k_dCZ (k_dCallV kp_DX5_isHouse (k_aI (k_aR k_aN (k_dGR k_vR)) k_vI))))) (k_dRet k_cI) k_dSkip) (k_dSeq (k_dDo (k_dCallV kp_DX0_search (k_aI (k_aI (k_aR (k_aR k_aN (k_dGR k_vR)) (k_dGR k_vR)) k_vI) (k_dCall kp_DX11_cell (k_aI (k_aR k_aN (k_dGR (k_dGR k_vR))) k_vI))))) (k_dRet (k_dCall kp_DX11_cell (k_aI (k_aR k_aN (k_dGR (k_dGR k_vR))) k_vI)))))
theorem kp_DX11_brings : KExp DX11_brings := by
  unfold DX11_brings
  exact (k_M1 kp_BX11_brings)
theorem kp_BX11_isLaw : KStm BX11_isLaw := by
  unfold BX11_isLaw
  exact (k_dRet (k_dB (k_dAnd (k_dCZ k_vI) (k_dCI k_vI k_cI))))
theorem kp_DX11_isLaw : KExp DX11_isLaw := by
  unfold DX11_isLaw
  exact (k_MZ kp_BX11_isLaw)
theorem kp_BX11_hearersBy : KStm BX11_hearersBy := by
  unfold BX11_hearersBy
  exact (k_dSeq (k_dDo (k_dCallV kp_DX2_setAsTold (k_aR (k_aR k_aN (k_dGR (k_dGR k_vR))) (k_dGR k_vR)))) (k_dSeq (k_dP (k_fI (by decide)) (k_dGR (k_dGR k_vR)) k_vI) (k_dSeq (k_dDo (k_dCallV kp_DX3_fill (k_aR (k_aR k_aN (k_dGR k_vR)) (k_dGR k_vR)))) (k_dRet (k_dCallV kp_DX3_hearersOn (k_aI (k_aI (k_aR (k_aR k_aN (k_dGR k_vR)) (k_dGR k_vR)) k_vI) (k_dGI (k_dGR k_vR))))))))
theorem kp_DX11_hearersBy : KExp DX11_hearersBy := by
  unfold DX11_hearersBy
  exact (k_M1 kp_BX11_hearersBy)
theorem kp_BX11_by : KStm BX11_by := by
  unfold BX11_by
  exact (k_dRet (k_dT (k_dAnd (k_dCZ (k_dCallV kp_DX5_isSlate (k_aI (k_aR k_aN (k_dGR k_vR)) k_vI))) (k_dCZ (k_dCall kp_DX11_isLaw (k_aI k_aN k_vI)))) (k_dCallV kp_DX11_hearersBy (k_aI (k_aI (k_aR k_aN k_vR) k_vI) k_vI)) k_cI))
theorem kp_DX11_by : KExp DX11_by := by
  unfold DX11_by
  exact (k_M1 kp_BX11_by)
theorem kp_LX0_housesReached_1 : KStm LX0_housesReached_1 := by
  unfold LX0_housesReached_1
  exact (k_dLoop (k_dCI k_vI k_cI) (k_dIf (k_dCI (k_dCall kp_DX11_cell (k_aI (k_aR k_aN (k_dGR k_vR)) k_vI)) k_cI) (k_dSetI (k_d2 k_vI (k_d2 k_cI k_vI))) k_dSkip) k_dInc)
theorem kp_BX0_housesReached : KStm BX0_housesReached := by
  unfold BX0_housesReached
  exact (k_dSeq (k_dSetI k_cI) (k_dSeq (k_dSeq (k_dSetI k_cI) kp_LX0_housesReached_1) (k_dRet k_vI)))
theorem kp_DX0_housesReached : KExp DX0_housesReached := by
  unfold DX0_housesReached
  exact (k_M1 kp_BX0_housesReached)
theorem kp_BX11_can : KStm BX11_can := by
  unfold BX11_can
  exact (k_dSeq (k_dIf (k_dNot (k_dCZ (k_dCallV kp_DX11_areAlone (k_aI (k_aI (k_aR k_aN k_vR) k_vI) k_vI)))) (k_dRet k_cI) k_dSkip) (k_dSeq (k_dDo (k_dCallV kp_DX0_search (k_aI (k_aI (k_aR (k_aR k_aN (k_dGR k_vR)) (k_dGR k_vR)) k_vI) (k_dCall kp_DX11_cell (k_aI (k_aR k_aN (k_dGR (k_dGR k_vR))) k_vI))))) (k_dRet (k_dCallV kp_DX0_housesReached (k_aR k_aN (k_dGR k_vR))))))
theorem kp_DX11_can : KExp DX11_can := by
  unfold DX11_can
  exact (k_M1 kp_BX11_can)
theorem kp_BX11_isChoice : KStm BX11_isChoice := by
  unfold BX11_isChoice
  exact (k_dRet (k_dB (k_dOr (k_dCZ k_vI) (k_dCI k_vI k_cI))))
theorem kp_DX11_isChoice : KExp DX11_isChoice := by
  unfold DX11_isChoice
  exact (k_MZ kp_BX11_isChoice)
theorem kp_BX11_carrier : KStm BX11_carrier := by
  unfold BX11_carrier
  exact (k_dSeq (k_dIf (k_dOr (k_dNot (k_dCZ (k_dCallV kp_DX5_isCarrier (k_aI (k_aR k_aN (k_dGR k_vR)) k_vI)))) (k_dNot (k_dCZ (k_dCall kp_DX11_isChoice (k_aI k_aN k_vI))))) (k_dRet k_cI) k_dSkip) (k_dRet (k_dCall kp_DX11_cell (k_aI (k_aR k_aN (k_dT (k_dCZ k_vI) (k_dGR (k_dGR k_vR)) (k_dGR (k_dGR k_vR)))) k_vI))))
theorem kp_DX11_carrier : KExp DX11_carrier := by
  unfold DX11_carrier
  exact (k_M1 kp_BX11_carrier)
theorem kp_BX5_isDayAhead : KStm BX5_isDayAhead := by
  unfold BX5_isDayAhead
  exact (k_dRet (k_dB (k_dAnd (k_dCZ k_vI) (k_dCI k_vI (k_dGI k_vR)))))
theorem kp_DX5_isDayAhead : KExp DX5_isDayAhead := by
  unfold DX5_isDayAhead
  exact (k_MZ kp_BX5_isDayAhead)
theorem kp_BX1_add : KStm BX1_add := by
  unfold BX1_add
  exact (k_dSeq (k_dIf (k_dCI (k_dGI k_vR) k_cI) k_dRet0 k_dSkip) (k_dSeq (k_dDo (k_dCall kp_DX11_put (k_aI (k_aI (k_aR k_aN (k_dGR k_vR)) (k_dGI k_vR)) k_vI))) (k_dSeq (k_dDo (k_dCall kp_DX11_put (k_aI (k_aI (k_aR k_aN (k_dGR k_vR)) (k_dGI k_vR)) k_vI))) (k_dSeq (k_dDo (k_dCall kp_DX11_put (k_aI (k_aI (k_aR k_aN (k_dGR k_vR)) (k_dGI k_vR)) k_vI))) (k_dSeq (k_dDo (k_dCall kp_DX11_put (k_aI (k_aI (k_aR k_aN (k_dGR k_vR)) (k_dGI k_vR)) k_vI))) (k_dSeq (k_dUF (by decide) k_vR k_cI) k_dRet0))))))
theorem kp_DX1_add : KExp DX1_add := by
  unfold DX1_add
  exact (k_M1 kp_BX1_add)
theorem kp_BX1_addAct : KStm BX1_addAct := by
  unfold BX1_addAct
  exact (k_dSeq (k_dIf (k_dCI (k_dGI k_vR) k_cI) k_dRet0 k_dSkip) (k_dSeq (k_dDo (k_dCall kp_DX11_put (k_aI (k_aI (k_aR k_aN (k_dGR k_vR)) (k_dGI k_vR)) k_vI))) (k_dSeq (k_dDo (k_dCall kp_DX11_put (k_aI (k_aI (k_aR k_aN (k_dGR k_vR)) (k_dGI k_vR)) k_vI))) (k_dSeq (k_dUF (by decide) k_vR k_cI) k_dRet0))))
theorem kp_DX1_addAct : KExp DX1_addAct := by
  unfold DX1_addAct
  exact (k_M1 kp_BX1_addAct)
theorem kp_BX3_reasonOf : KStm BX3_reasonOf := by
  unfold BX3_reasonOf
  exact (k_dRet (k_dCall kp_DX11_cell (k_aI (k_aR k_aN (k_dGR (k_dGR k_vR))) k_vI)))
theorem kp_DX3_reasonOf : KExp DX3_reasonOf := by
  unfold DX3_reasonOf
  exact (k_M1 kp_BX3_reasonOf)
theorem kp_BX11_carry : KStm BX11_carry := by
  unfold BX11_carry
  exact (k_dSeq (k_dIf (k_dOr (k_dOr (k_dNot (k_dCZ (k_dCallV kp_DX11_areAlone (k_aI (k_aI (k_aR k_aN k_vR) k_vI) k_vI)))) (k_dNot (k_dCZ (k_dCallV kp_DX5_isHouse (k_aI (k_aR k_aN (k_dGR k_vR)) k_vI))))) (k_dNot (k_dCZ (k_dCallV kp_DX5_isDayAhead (k_aI (k_aR k_aN (k_dGR k_vR)) k_vI))))) (k_dRet k_cI) k_dSkip) (k_dSeq (k_dIf (k_dCI (k_dGI (k_dGR (k_dGR k_vR))) k_cI) (k_dRet k_cI) k_dSkip) (k_dSeq (k_dDo (k_dCallV kp_DX1_add (k_aI (k_aI (k_aI (k_aI (k_aR k_aN (k_dGR (k_dGR k_vR))) k_vI) k_vI) k_vI) k_vI))) (k_dSeq (k_dDo (k_dCallV kp_DX1_addAct (k_aI (k_aI (k_aR k_aN (k_dGR (k_dGR k_vR))) k_cI) k_cI))) (k_dSeq (k_dDo (k_dCallV kp_DX11_makeStale (k_aR k_aN k_vR))) (k_dRet (k_dT (k_dCZ (k_dCallV kp_DX3_reasonOf (k_aI (k_aR k_aN (k_dCallV kp_DX11_today (k_aR k_aN k_vR))) (k_d2 (k_dGI (k_dGR (k_dGR k_vR))) k_cI)))) k_cI k_cI)))))))
theorem kp_DX11_carry : KExp DX11_carry := by
  unfold DX11_carry
  exact (k_M1 kp_BX11_carry)
theorem kp_BX5_allCarriers : KStm BX5_allCarriers := by
  unfold BX5_allCarriers
  exact (k_dRet (k_d2 (k_d2 k_cI (k_dGI k_vR)) k_cI))
theorem kp_DX5_allCarriers : KExp DX5_allCarriers := by
  unfold DX5_allCarriers
  exact (k_M1 kp_BX5_allCarriers)
theorem kp_BX5_isCart : KStm BX5_isCart := by
  unfold BX5_isCart
  exact (k_dRet (k_dB (k_dAnd (k_dCZ k_vI) (k_dCI k_vI (k_dCallV kp_DX5_allCarriers (k_aR k_aN k_vR))))))
theorem kp_DX5_isCart : KExp DX5_isCart := by
  unfold DX5_isCart
  exact (k_MZ kp_BX5_isCart)
theorem kp_LX5_strongTogether_1 : KStm LX5_strongTogether_1 := by
  unfold LX5_strongTogether_1
  exact (k_dLoop (k_dCI k_vI (k_dGI k_vR)) (k_dIf (k_dCZ (k_dCall kp_DX11_hasBit (k_aI (k_aI k_aN k_vI) k_vI))) (k_dSetI (k_d2 k_vI (k_dCall kp_DX11_cell (k_aI (k_aR k_aN (k_dGR k_vR)) k_vI)))) k_dSkip) k_dInc)
theorem kp_BX5_strongTogether : KStm BX5_strongTogether := by
  unfold BX5_strongTogether
  exact (k_dSeq (k_dSetI k_cI) (k_dSeq (k_dSeq (k_dSetI k_cI) kp_LX5_strongTogether_1) (k_dRet k_vI)))
theorem kp_DX5_strongTogether : KExp DX5_strongTogether := by
  unfold DX5_strongTogether
  exact (k_M1 kp_BX5_strongTogether)
theorem kp_BX11_cart : KStm BX11_cart := by
  unfold BX11_cart
  exact (k_dSeq (k_dIf (k_dOr (k_dOr (k_dNot (k_dCZ (k_dCallV kp_DX5_isCart (k_aI (k_aR k_aN (k_dGR k_vR)) k_vI)))) (k_dNot (k_dCZ (k_dCallV kp_DX5_isSlate (k_aI (k_aR k_aN (k_dGR k_vR)) k_vI))))) (k_dNot (k_dCZ (k_dCallV kp_DX5_isHouse (k_aI (k_aR k_aN (k_dGR k_vR)) k_vI))))) (k_dRet k_cI) k_dSkip) (k_dSeq (k_dDo (k_dCallV kp_DX0_search (k_aI (k_aI (k_aR (k_aR k_aN (k_dGR k_vR)) (k_dGR k_vR)) k_vI) (k_dCallV kp_DX5_strongTogether (k_aI (k_aR k_aN (k_dGR k_vR)) k_vI))))) (k_dRet (k_dCall kp_DX11_cell (k_aI (k_aR k_aN (k_dGR (k_dGR k_vR))) k_vI)))))
theorem kp_DX11_cart : KExp DX11_cart := by
  unfold DX11_cart
  exact (k_M1 kp_BX11_cart)
theorem kp_LJ7_fill_d0a16_1 : KStm LJ7_fill_d0a16_1 := by
  unfold LJ7_fill_d0a16_1
  exact (k_dLoop (k_dCI k_vI k_vI) (k_d3 k_stL k_vR k_vI k_vL) k_dInc)
theorem kp_BJ7_fill_d0a16 : KStm BJ7_fill_d0a16 := by
  unfold BJ7_fill_d0a16
  exact (k_dSeq (k_dSeq (k_dSetI k_cI) (k_dSeq (k_dSetI (k_dLen k_vR)) kp_LJ7_fill_d0a16_1)) k_dRet0)
theorem kp_DJ7_fill_d0a16 : KExp DJ7_fill_d0a16 := by
  unfold DJ7_fill_d0a16
  exact (k_M1 kp_BJ7_fill_d0a16)
theorem kp_LX5_busyDays_1 : KStm LX5_busyDays_1 := by
  unfold LX5_busyDays_1
  exact (k_dLoop (k_dCI k_vI (k_dGI (k_dGR k_vR))) (k_dSeq (k_dSetI (k_dCall kp_DX11_cell (k_aI (k_aR k_aN (k_dGR (k_dGR k_vR))) k_vI))) (k_dSetI (k_d2 k_vI (k_dT (k_dCZ (k_dCallV kp_DX5_isDayAhead (k_aI (k_aR k_aN k_vR) k_vI))) (k_d2 k_cI k_vI) k_cI)))) k_dInc)
theorem kp_BX5_busyDays : KStm BX5_busyDays := by
  unfold BX5_busyDays
  exact (k_dSeq (k_dSetI k_cI) (k_dSeq (k_dSeq (k_dSetI k_cI) kp_LX5_busyDays_1) (k_dRet k_vI)))
theorem kp_DX5_busyDays : KExp DX5_busyDays := by
  unfold DX5_busyDays
  exact (k_M1 kp_BX5_busyDays)
theorem kp_LX10_power_1 : KStm LX10_power_1 := by
  unfold LX10_power_1
  exact (k_dLoop (k_dCI k_vI k_vI) (k_dSetL (k_d2 k_vL (k_d1 k_vI))) k_dInc)
theorem kp_BX10_power : KStm BX10_power := by
  unfold BX10_power
  exact (k_dSeq (k_dSetL k_cL) (k_dSeq (k_dSeq (k_dSetI k_cI) kp_LX10_power_1) (k_dRet k_vL)))
theorem kp_DX10_power : KExp DX10_power := by
  unfold DX10_power
  exact (k_M1 kp_BX10_power)
theorem kp_LX2_runThrough_1 : KStm LX2_runThrough_1 := by
  unfold LX2_runThrough_1
  exact (k_dLoop (k_dCI k_vI (k_dGI k_vR)) (k_dDo (k_dCallV kp_DX2_passDay (k_aI (k_aR (k_aR k_aN k_vR) k_vR) k_vI))) k_dInc)
theorem kp_BX2_runThrough : KStm BX2_runThrough := by
  unfold BX2_runThrough
  exact (k_dSeq (k_dDo (k_dCallV kp_DX2_begin (k_aR (k_aR k_aN k_vR) k_vR))) (k_dSeq (k_dSeq (k_dSetI k_cI) kp_LX2_runThrough_1) k_dRet0))
theorem kp_DX2_runThrough : KExp DX2_runThrough := by
  unfold DX2_runThrough
  exact (k_M1 kp_BX2_runThrough)
theorem kp_BX2_knownBy : KStm BX2_knownBy := by
  unfold BX2_knownBy
  exact (k_dRet (k_dCall kp_DX11_cell (k_aI (k_aR k_aN (k_dGR k_vR)) (k_d2 (k_d2 k_vI k_cI) k_vI))))
theorem kp_DX2_knownBy : KExp DX2_knownBy := by
  unfold DX2_knownBy
  exact (k_M1 kp_BX2_knownBy)
theorem kp_LX10_addUp_1 : KStm LX10_addUp_1 := by
  unfold LX10_addUp_1
  exact (k_dLoop (k_dCI k_vI (k_dGI k_vR)) (k_dSeq (k_dSetI (k_d2 (k_d2 k_vI k_cI) k_vI)) (k_dIf (k_dAnd (k_dCI k_vI (k_dLen (k_dGR k_vR))) (k_dCZ (k_dCallV kp_DX2_knownBy (k_aI (k_aI (k_aR k_aN k_vR) k_vI) k_vI)))) (k_dUL (k_dGR k_vR) k_vI k_vL) k_dSkip)) k_dInc)
theorem kp_LX10_addUp_2 : KStm LX10_addUp_2 := by
  unfold LX10_addUp_2
  exact (k_dLoop (k_dAnd (k_dCI k_vI (k_dGI k_vR)) (k_dCI k_vI (k_dLen (k_dGR k_vR)))) (k_dSeq (k_dUL (k_dGR k_vR) k_vI (k_d2 k_vL (k_d1 (k_dCall kp_DJ6_bitCount_0f7a4 (k_aI k_aN (k_dCall kp_DX11_cell (k_aI (k_aR k_aN (k_dGR k_vR)) k_vI))))))) (k_dSeq (k_dSetI k_cI) kp_LX10_addUp_1)) k_dInc)
theorem kp_BX10_addUp : KStm BX10_addUp := by
  unfold BX10_addUp
  exact (k_dSeq (k_dSeq (k_dSetI k_cI) kp_LX10_addUp_2) k_dRet0)
theorem kp_DX10_addUp : KExp DX10_addUp := by
  unfold DX10_addUp
  exact (k_M1 kp_BX10_addUp)
theorem kp_LX10_fill_1 : KStm LX10_fill_1 := by
  unfold LX10_fill_1
  exact (k_dLoop (k_dCI k_vI (k_d2 k_cI k_vI)) (k_dSeq (k_dSetI (k_dCall kp_DJ6_bitCount_0f7a4 (k_aI k_aN k_vI))) (k_dSeq (k_dSetL (k_d2 (k_dCall kp_DX10_power (k_aI (k_aI k_aN (k_dGI k_vR)) k_vI)) (k_dCall kp_DX10_power (k_aI (k_aI k_aN (k_d2 k_cI (k_dGI k_vR))) (k_d2 k_vI k_vI))))) (k_dSeq (k_dIf (k_dCZ (k_d2 k_vL k_cL)) (k_dSeq (k_dDo (k_dCallV kp_DX2_setAsTold (k_aR (k_aR k_aN k_vR) k_vR))) (k_dSeq (k_dP (k_fI (by decide)) k_vR k_vI) (k_dSeq (k_dDo (k_dCallV kp_DX2_runThrough (k_aR (k_aR k_aN k_vR) k_vR))) (k_dDo (k_dCallV kp_DX10_addUp (k_aL (k_aR (k_aR (k_aR k_aN k_vR) k_vR) k_vR) k_vL)))))) k_dSkip) (k_dSetI (k_d2 (k_d2 k_vI k_vI) k_vI))))) k_dInc)
theorem kp_BX10_fill : KStm BX10_fill := by
  unfold BX10_fill
  exact (k_dSeq (k_dIf (k_dCZ (k_dGI k_vR)) k_dRet0 k_dSkip) (k_dSeq (k_dP (k_fZ (by decide)) k_vR k_cI) (k_dSeq (k_dDo (k_dCall kp_DJ7_fill_d0a16 (k_aL (k_aR k_aN (k_dGR k_vR)) k_cL))) (k_dSeq (k_dDo (k_dCall kp_DJ7_fill_d0a16 (k_aL (k_aR k_aN (k_dGR k_vR)) k_cL))) (k_dSeq (k_dSetI (k_dCallV kp_DX5_busyDays (k_aR k_aN k_vR))) (k_dSeq (k_dSetI (k_d2 k_cI (k_dCall kp_DJ6_bitCount_0f7a4 (k_aI k_aN k_vI)))) (k_dSeq (k_dP (k_fL (by decide)) k_vR (k_dCall kp_DX10_power (k_aI (k_aI k_aN k_cI) k_vI))) (k_dSeq (k_dSetI k_cI) (k_dSeq (k_dSeq (k_dSetI k_cI) kp_LX10_fill_1) k_dRet0)))))))))
theorem kp_DX10_fill : KExp DX10_fill := by
  unfold DX10_fill
  exact (k_M1 kp_BX10_fill)
theorem kp_LX11_inLowestTerms_1 : KStm LX11_inLowestTerms_1 := by
  unfold LX11_inLowestTerms_1
  exact (k_dLoop (k_dAnd (k_dCI k_vI k_cI) (k_dCZ (k_d2 k_vL k_cL))) (k_dSeq (k_dSetL (k_d2z k_vL k_vL)) (k_dSeq (k_dSetL k_vL) (k_dSetL k_vL))) k_dInc)
theorem kp_BX11_inLowestTerms : KStm BX11_inLowestTerms := by
  unfold BX11_inLowestTerms
  exact (k_dSeq (k_dSetL k_vL) (k_dSeq (k_dSetL k_vL) (k_dSeq (k_dSeq (k_dSetI k_cI) kp_LX11_inLowestTerms_1) (k_dSeq (k_dIf (k_dCZ (k_d2 k_vL k_cL)) (k_dRet k_cL) k_dSkip) (k_dRet (k_d2z (k_dT (k_dCZ k_vI) k_vL k_vL) k_vL))))))
theorem kp_DX11_inLowestTerms : KExp DX11_inLowestTerms := by
  unfold DX11_inLowestTerms
  exact (k_M1 kp_BX11_inLowestTerms)
theorem kp_BX10_likelyKnown : KStm BX10_likelyKnown := by
  unfold BX10_likelyKnown
  exact (k_dSeq (k_dSetI (k_d2 (k_d2 k_vI k_cI) k_vI)) (k_dRet (k_dT (k_dAnd (k_dCZ k_vI) (k_dCI k_vI (k_dLen (k_dGR k_vR)))) (k_dAL (k_dGR k_vR) k_vI) k_cL)))
theorem kp_DX10_likelyKnown : KExp DX10_likelyKnown := by
  unfold DX10_likelyKnown
  exact (k_M1 kp_BX10_likelyKnown)
theorem kp_BX11_chance : KStm BX11_chance := by
  unfold BX11_chance
  exact (k_dSeq (k_dIf (k_dOr (k_dOr (k_dNot (k_dCZ (k_dCallV kp_DX5_isSlate (k_aI (k_aR k_aN (k_dGR k_vR)) k_vI)))) (k_dNot (k_dCZ (k_dCallV kp_DX5_isHouse (k_aI (k_aR k_aN (k_dGR k_vR)) k_vI))))) (k_dNot (k_dCZ (k_dCall kp_DX11_isChoice (k_aI k_aN k_vI))))) (k_dRet k_cI) k_dSkip) (k_dSeq (k_dIf (k_dCI (k_dGI (k_dGR k_vR)) k_cI) (k_dRet k_cI) k_dSkip) (k_dSeq (k_dDo (k_dCallV kp_DX10_fill (k_aR (k_aR (k_aR k_aN (k_dGR k_vR)) (k_dGR k_vR)) (k_dGR (k_dGR k_vR))))) (k_dRet (k_d1 (k_dCall kp_DX11_inLowestTerms (k_aI (k_aL (k_aL k_aN (k_dCallV kp_DX10_likelyKnown (k_aI (k_aI (k_aR k_aN (k_dGR k_vR)) k_vI) k_vI))) (k_dGL (k_dGR k_vR))) k_vI)))))))
theorem kp_DX11_chance : KExp DX11_chance := by
  unfold DX11_chance
  exact (k_M1 kp_BX11_chance)
theorem kp_BX5_areHouses : KStm BX5_areHouses := by
  unfold BX5_areHouses
  exact (k_dRet (k_dB (k_dAnd (k_dCZ (k_dCallV kp_DX5_isHouse (k_aI (k_aR k_aN k_vR) k_vI))) (k_dCZ (k_dCallV kp_DX5_isHouse (k_aI (k_aR k_aN k_vR) k_vI))))))
theorem kp_DX5_areHouses : KExp DX5_areHouses := by
  unfold DX5_areHouses
  exact (k_MZ kp_BX5_areHouses)
theorem kp_BX4_improve : KStm BX4_improve := by
  unfold BX4_improve
  exact (k_dSeq (k_dSetI (k_dCall kp_DX11_cell (k_aI (k_aR k_aN (k_dGR k_vR)) k_vI))) (k_dSeq (k_dSetI (k_dCall kp_DX11_cell (k_aI (k_aR k_aN (k_dGR k_vR)) k_vI))) (k_dSeq (k_dSetI (k_d2 k_vI (k_dCallV kp_DX5_climbTo (k_aI (k_aI (k_aR k_aN k_vR) k_vI) k_vI)))) (k_dSeq (k_dIf (k_dAnd (k_dCI k_vI k_cI) (k_dOr (k_dCI k_vI k_cI) (k_dCI k_vI k_vI))) (k_dDo (k_dCall kp_DX11_put (k_aI (k_aI (k_aR k_aN (k_dGR k_vR)) k_vI) k_vI))) k_dSkip) k_dRet0))))
theorem kp_DX4_improve : KExp DX4_improve := by
  unfold DX4_improve
  exact (k_M1 kp_BX4_improve)
theorem kp_LX4_leastClimb_1 : KStm LX4_leastClimb_1 := by
  unfold LX4_leastClimb_1
  exact (k_dLoop (k_dCI k_vI (k_dGI k_vR)) (k_dSeq (k_dDo (k_dCallV kp_DX4_improve (k_aI (k_aI (k_aR (k_aR k_aN k_vR) k_vR) (k_dCall kp_DX11_cell (k_aI (k_aR k_aN (k_dGR k_vR)) k_vI))) (k_dCall kp_DX11_cell (k_aI (k_aR k_aN (k_dGR k_vR)) k_vI))))) (k_dDo (k_dCallV kp_DX4_improve (k_aI (k_aI (k_aR (k_aR k_aN k_vR) k_vR) (k_dCall kp_DX11_cell (k_aI (k_aR k_aN (k_dGR k_vR)) k_vI))) (k_dCall kp_DX11_cell (k_aI (k_aR k_aN (k_dGR k_vR)) k_vI)))))) k_dInc)
theorem kp_LX4_leastClimb_2 : KStm LX4_leastClimb_2 := by
  unfold LX4_leastClimb_2
  exact (k_dLoop (k_dCI k_vI k_cI) (k_dSeq (k_dSetI k_cI) kp_LX4_leastClimb_1) k_dInc)
theorem kp_BX4_leastClimb : KStm BX4_leastClimb := by
  unfold BX4_leastClimb
  exact (k_dSeq (k_dDo (k_dCall kp_DJ7_fill_53178 (k_aI (k_aR k_aN (k_dGR k_vR)) k_cI))) (k_dSeq (k_dDo (k_dCall kp_DX11_put (k_aI (k_aI (k_aR k_aN (k_dGR k_vR)) k_vI) k_cI))) (k_dSeq (k_dSeq (k_dSetI k_cI) kp_LX4_leastClimb_2) (k_dRet (k_dCall kp_DX11_cell (k_aI (k_aR k_aN (k_dGR k_vR)) k_vI))))))
theorem kp_DX4_leastClimb : KExp DX4_leastClimb := by
  unfold DX4_leastClimb
  exact (k_M1 kp_BX4_leastClimb)
theorem kp_BX11_climb : KStm BX11_climb := by
  unfold BX11_climb
  exact (k_dRet (k_dT (k_dCZ (k_dCallV kp_DX5_areHouses (k_aI (k_aI (k_aR k_aN (k_dGR k_vR)) k_vI) k_vI))) (k_dCallV kp_DX4_leastClimb (k_aI (k_aI (k_aR (k_aR k_aN (k_dGR k_vR)) (k_dGR k_vR)) k_vI) k_vI)) k_cI))
theorem kp_DX11_climb : KExp DX11_climb := by
  unfold DX11_climb
  exact (k_M1 kp_BX11_climb)
theorem kp_LX8_howMany_1 : KStm LX8_howMany_1 := by
  unfold LX8_howMany_1
  exact (k_dLoop (k_dCI k_vI k_cI) (k_dIf (k_dCZ (k_dCallV kp_DX8_hasRow (k_aI (k_aR k_aN k_vR) k_vI))) k_dInc k_dSkip) k_dInc)
theorem kp_BX8_howMany : KStm BX8_howMany := by
  unfold BX8_howMany
  exact (k_dSeq (k_dSetI k_cI) (k_dSeq (k_dSeq (k_dSetI k_cI) kp_LX8_howMany_1) (k_dRet k_vI)))
theorem kp_DX8_howMany : KExp DX8_howMany := by
  unfold DX8_howMany
  exact (k_M1 kp_BX8_howMany)
theorem kp_BX11_count : KStm BX11_count := by
  unfold BX11_count
  exact (k_dSw k_vI (k_cons (k_dRet (k_dGI (k_dGR k_vR))) (k_cons (k_dRet (k_dGI (k_dGR k_vR))) (k_cons (k_dRet (k_dGI (k_dGR k_vR))) (k_cons (k_dRet (k_dGI (k_dGR k_vR))) (k_cons (k_dRet (k_dGI (k_dGR k_vR))) (k_cons (k_dRet (k_dGI (k_dGR k_vR))) (k_cons (k_dRet (k_dGI (k_dGR k_vR))) (k_cons (k_dRet (k_dGI (k_dGR (k_dGR k_vR)))) (k_cons (k_dRet (k_dGI (k_dGR (k_dGR k_vR)))) (k_cons (k_dRet (k_dGI (k_dGR k_vR))) (k_cons (k_dRet (k_dGI (k_dGR k_vR))) (k_cons (k_dRet (k_dCallV kp_DX8_howMany (k_aR k_aN (k_dGR k_vR)))) k_nil)))))))))))) (k_dRet k_cI))
theorem kp_DX11_count : KExp DX11_count := by
  unfold DX11_count
  exact (k_M1 kp_BX11_count)
theorem kp_BX5_isCarry : KStm BX5_isCarry := by
  unfold BX5_isCarry
  exact (k_dRet (k_dB (k_dAnd (k_dCZ k_vI) (k_dCI k_vI (k_dGI (k_dGR k_vR))))))
theorem kp_DX5_isCarry : KExp DX5_isCarry := by
  unfold DX5_isCarry
  exact (k_MZ kp_BX5_isCarry)
theorem kp_BX11_done : KStm BX11_done := by
  unfold BX11_done
  exact (k_dSeq (k_dIf (k_dNot (k_dCZ (k_dCallV kp_DX5_isCarry (k_aI (k_aR k_aN (k_dGR k_vR)) k_vI)))) (k_dRet k_cI) k_dSkip) (k_dRet (k_dT (k_dCZ (k_dCallV kp_DX3_reasonOf (k_aI (k_aR k_aN (k_dCallV kp_DX11_today (k_aR k_aN k_vR))) k_vI))) k_cI k_cI)))
theorem kp_DX11_done : KExp DX11_done := by
  unfold DX11_done
  exact (k_M1 kp_BX11_done)
theorem kp_LX11_dones_1 : KStm LX11_dones_1 := by
  unfold LX11_dones_1
  exact (k_dLoop (k_dCI k_vI (k_dGI (k_dGR (k_dGR k_vR)))) (k_dIf (k_dCZ (k_dCallV kp_DX3_reasonOf (k_aI (k_aR k_aN (k_dCallV kp_DX11_today (k_aR k_aN k_vR))) k_vI))) (k_dSetI (k_d2 k_vI (k_d2 k_cI k_vI))) k_dSkip) k_dInc)
theorem kp_BX11_dones : KStm BX11_dones := by
  unfold BX11_dones
  exact (k_dSeq (k_dIf (k_dNot (k_dCZ (k_dCallV kp_DX5_isTold (k_aR k_aN (k_dGR k_vR))))) (k_dRet k_cI) k_dSkip) (k_dSeq (k_dSetI k_cI) (k_dSeq (k_dSeq (k_dSetI k_cI) kp_LX11_dones_1) (k_dRet k_vI))))
theorem kp_DX11_dones : KExp DX11_dones := by
  unfold DX11_dones
  exact (k_M1 kp_BX11_dones)
theorem kp_BX11_doors : KStm BX11_doors := by
  unfold BX11_doors
  exact (k_dRet (k_dT (k_dCZ (k_dCallV kp_DX5_isHouse (k_aI (k_aR k_aN (k_dGR k_vR)) k_vI))) (k_dCallV kp_DX5_doorsOf (k_aI (k_aI (k_aR k_aN (k_dGR k_vR)) k_vI) k_cI)) k_cI))
theorem kp_DX11_doors : KExp DX11_doors := by
  unfold DX11_doors
  exact (k_M1 kp_BX11_doors)
theorem kp_BX11_isSeed : KStm BX11_isSeed := by
  unfold BX11_isSeed
  exact (k_dRet (k_dB (k_dAnd (k_dCZ k_vI) (k_dCI k_vI k_cI))))
theorem kp_DX11_isSeed : KExp DX11_isSeed := by
  unfold DX11_isSeed
  exact (k_MZ kp_BX11_isSeed)
theorem kp_LX10_rainDrawn_1 : KStm LX10_rainDrawn_1 := by
  unfold LX10_rainDrawn_1
  exact (k_dLoop (k_dCI k_vI (k_dGI k_vR)) (k_dSeq (k_dSetL (k_d2z (k_d2 (k_d2 k_cL k_vL) k_cL) k_cL)) (k_dIf (k_dCZ (k_d2 (k_d2z (k_d2z k_vL k_cL) k_cL) (k_d1 (k_dGI k_vR)))) (k_dSetI (k_d2 k_vI (k_d2 k_cI k_vI))) k_dSkip)) k_dInc)
theorem kp_BX10_rainDrawn : KStm BX10_rainDrawn := by
  unfold BX10_rainDrawn
  exact (k_dSeq (k_dSetI k_cI) (k_dSeq (k_dSetL k_vL) (k_dSeq (k_dSeq (k_dSetI k_cI) kp_LX10_rainDrawn_1) (k_dRet k_vI))))
theorem kp_DX10_rainDrawn : KExp DX10_rainDrawn := by
  unfold DX10_rainDrawn
  exact (k_M1 kp_BX10_rainDrawn)
theorem kp_BX11_runInRain : KStm BX11_runInRain := by
  unfold BX11_runInRain
  exact (k_dSeq (k_dDo (k_dCallV kp_DX2_setAsTold (k_aR (k_aR k_aN (k_dGR (k_dGR k_vR))) (k_dGR k_vR)))) (k_dSeq (k_dP (k_fI (by decide)) (k_dGR (k_dGR k_vR)) k_vI) (k_dSeq (k_dDo (k_dCallV kp_DX2_runThrough (k_aR (k_aR k_aN (k_dGR (k_dGR k_vR))) (k_dGR k_vR)))) k_dRet0)))
theorem kp_DX11_runInRain : KExp DX11_runInRain := by
  unfold DX11_runInRain
  exact (k_M1 kp_BX11_runInRain)
theorem kp_LX11_drawn_1 : KStm LX11_drawn_1 := by
  unfold LX11_drawn_1
  exact (k_dLoop (k_dCI k_vI (k_dGI (k_dGR k_vR))) (k_dSetI (k_d2 k_vI (k_dCall kp_DJ6_bitCount_0f7a4 (k_aI k_aN (k_dCall kp_DX11_cell (k_aI (k_aR k_aN (k_dGR (k_dGR (k_dGR k_vR)))) k_vI)))))) k_dInc)
theorem kp_BX11_drawn : KStm BX11_drawn := by
  unfold BX11_drawn
  exact (k_dSeq (k_dIf (k_dOr (k_dOr (k_dNot (k_dCZ (k_dCallV kp_DX5_isTold (k_aR k_aN (k_dGR k_vR))))) (k_dNot (k_dCZ (k_dCall kp_DX11_isSeed (k_aI k_aN k_vI))))) (k_dNot (k_dCZ (k_dCall kp_DX11_isChoice (k_aI k_aN k_vI))))) (k_dRet k_cI) k_dSkip) (k_dSeq (k_dSetI (k_dCallV kp_DX10_rainDrawn (k_aL (k_aR (k_aR k_aN (k_dGR k_vR)) (k_dGR k_vR)) (k_d1 k_vI)))) (k_dSeq (k_dIf (k_dCZ k_vI) (k_dRet k_vI) k_dSkip) (k_dSeq (k_dDo (k_dCallV kp_DX11_runInRain (k_aI (k_aR k_aN k_vR) k_vI))) (k_dSeq (k_dSetI k_cI) (k_dSeq (k_dSeq (k_dSetI k_cI) kp_LX11_drawn_1) (k_dRet k_vI)))))))
theorem kp_DX11_drawn : KExp DX11_drawn := by
  unfold DX11_drawn
  exact (k_M1 kp_BX11_drawn)
theorem kp_BX11_end : KStm BX11_end := by
  unfold BX11_end
  exact (k_dSeq (k_dIf (k_dOr (k_dCZ k_vI) (k_dCI k_vI (k_dGI (k_dGR k_vR)))) (k_dRet k_cI) k_dSkip) (k_dSeq (k_dP (k_fI (by decide)) (k_dGR k_vR) k_vI) (k_dRet k_vI)))
theorem kp_DX11_end : KExp DX11_end := by
  unfold DX11_end
  exact (k_M1 kp_BX11_end)
theorem kp_LX11_famous_1 : KStm LX11_famous_1 := by
  unfold LX11_famous_1
  exact (k_dLoop (k_dCI k_vI (k_dGI (k_dGR k_vR))) (k_dSeq (k_dSetI (k_dCall kp_DJ6_bitCount_0f7a4 (k_aI k_aN (k_dCallV kp_DX3_hearersOn (k_aI (k_aI (k_aR (k_aR k_aN k_vR) (k_dGR k_vR)) k_vI) (k_dGI (k_dGR k_vR))))))) (k_dIf (k_dCI k_vI k_vI) (k_dSeq (k_dSetI k_vI) (k_dSetI k_vI)) k_dSkip)) k_dInc)
theorem kp_BX11_famous : KStm BX11_famous := by
  unfold BX11_famous
  exact (k_dSeq (k_dIf (k_dNot (k_dCZ (k_dCallV kp_DX5_isTold (k_aR k_aN (k_dGR k_vR))))) (k_dRet k_cI) k_dSkip) (k_dSeq (k_dSetR (k_dCallV kp_DX11_today (k_aR k_aN k_vR))) (k_dSeq (k_dSetI k_cI) (k_dSeq (k_dSetI k_cI) (k_dSeq (k_dSeq (k_dSetI k_cI) kp_LX11_famous_1) (k_dRet k_vI))))))
theorem kp_DX11_famous : KExp DX11_famous := by
  unfold DX11_famous
  exact (k_M1 kp_BX11_famous)
theorem kp_LX4_nextTo_1 : KStm LX4_nextTo_1 := by
  unfold LX4_nextTo_1
  exact (k_dLoop (k_dCI k_vI (k_dGI k_vR)) (k_dIf (k_dCZ (k_dCall kp_DX11_hasBit (k_aI (k_aI k_aN k_vI) k_vI))) (k_dSetI (k_d2 k_vI (k_dCallV kp_DX5_doorsOf (k_aI (k_aI (k_aR k_aN k_vR) k_vI) k_cI)))) k_dSkip) k_dInc)
theorem kp_BX4_nextTo : KStm BX4_nextTo := by
  unfold BX4_nextTo
  exact (k_dSeq (k_dSetI k_cI) (k_dSeq (k_dSeq (k_dSetI k_cI) kp_LX4_nextTo_1) (k_dRet k_vI)))
theorem kp_DX4_nextTo : KExp DX4_nextTo := by
  unfold DX4_nextTo
  exact (k_M1 kp_BX4_nextTo)
theorem kp_LX4_fewestWays_1 : KStm LX4_fewestWays_1 := by
  unfold LX4_fewestWays_1
  exact (k_dLoop (k_dCI k_vI k_cI) (k_dSeq (k_dIf (k_dCZ (k_dCall kp_DX11_hasBit (k_aI (k_aI k_aN k_vI) k_vI))) (k_dRet k_vI) k_dSkip) (k_dSetI (k_d2 k_vI (k_dCall kp_DX4_nextTo (k_aI (k_aR k_aN k_vR) k_vI))))) k_dInc)
theorem kp_BX4_fewestWays : KStm BX4_fewestWays := by
  unfold BX4_fewestWays
  exact (k_dSeq (k_dSetI (k_d2 k_cI k_vI)) (k_dSeq (k_dSeq (k_dSetI k_cI) kp_LX4_fewestWays_1) (k_dRet k_cI)))
theorem kp_DX4_fewestWays : KExp DX4_fewestWays := by
  unfold DX4_fewestWays
  exact (k_M1 kp_BX4_fewestWays)
theorem kp_BX11_far : KStm BX11_far := by
  unfold BX11_far
  exact (k_dRet (k_dT (k_dCZ (k_dCallV kp_DX5_areHouses (k_aI (k_aI (k_aR k_aN (k_dGR k_vR)) k_vI) k_vI))) (k_dCallV kp_DX4_fewestWays (k_aI (k_aI (k_aR (k_aR k_aN (k_dGR k_vR)) (k_dGR k_vR)) k_vI) k_vI)) k_cI))
theorem kp_DX11_far : KExp DX11_far := by
  unfold DX11_far
  exact (k_M1 kp_BX11_far)
theorem kp_BX11_fault : KStm BX11_fault := by
  unfold BX11_fault
  exact (k_dSeq (k_dIf (k_dCZ k_vI) (k_dRet (k_dGI (k_dGR k_vR))) k_dSkip) (k_dRet (k_dT (k_dCI k_vI k_cI) (k_dGI (k_dGR k_vR)) k_cI)))
theorem kp_DX11_fault : KExp DX11_fault := by
  unfold DX11_fault
  exact (k_M1 kp_BX11_fault)
theorem kp_LX9_add_1 : KStm LX9_add_1 := by
  unfold LX9_add_1
  exact (k_dLoop (k_dCZ k_vI) (k_dIf (k_dAnd (k_dCZ (k_dGI k_vR)) (k_dCI (k_dGI k_vR) (k_dLen (k_dGR k_vR)))) (k_dSeq (k_d3 (k_stI (by decide)) (k_dGR k_vR) (k_dGI k_vR) (k_d1 (k_d2 k_vI k_vI))) (k_dUF (by decide) k_vR k_cI)) k_dSkip) k_dInc)
theorem kp_BX9_add : KStm BX9_add := by
  unfold BX9_add
  exact (k_dSeq (k_dSeq (k_dSetI k_cI) kp_LX9_add_1) k_dRet0)
theorem kp_DX9_add : KExp DX9_add := by
  unfold DX9_add
  exact (k_M1 kp_BX9_add)
theorem kp_BX11_feed : KStm BX11_feed := by
  unfold BX11_feed
  exact (k_dSeq (k_dIf (k_dCI (k_d2 (k_dGI (k_dGR k_vR)) k_cI) k_cI) (k_dRet k_cI) k_dSkip) (k_dSeq (k_dDo (k_dCallV kp_DX9_add (k_aI (k_aR k_aN (k_dGR k_vR)) k_vI))) (k_dSeq (k_dDo (k_dCallV kp_DX9_add (k_aI (k_aR k_aN (k_dGR k_vR)) k_vI))) (k_dSeq (k_dDo (k_dCallV kp_DX9_add (k_aI (k_aR k_aN (k_dGR k_vR)) k_vI))) (k_dSeq (k_dDo (k_dCallV kp_DX9_add (k_aI (k_aR k_aN (k_dGR k_vR)) k_vI))) (k_dSeq (k_dDo (k_dCallV kp_DX9_add (k_aI (k_aR k_aN (k_dGR k_vR)) k_vI))) (k_dRet (k_dGI (k_dGR k_vR)))))))))
theorem kp_DX11_feed : KExp DX11_feed := by
  unfold DX11_feed
  exact (k_M1 kp_BX11_feed)
theorem kp_BX11_firsts : KStm BX11_firsts := by
  unfold BX11_firsts
  exact (k_dSeq (k_dSetI (k_dCallV kp_DX7_wrongRow (k_aI (k_aI (k_aR (k_aR (k_aR k_aN (k_dGR k_vR)) (k_dGR k_vR)) (k_dGR k_vR)) k_vI) k_vI))) (k_dSeq (k_dIf (k_dCZ k_vI) (k_dRet k_vI) k_dSkip) (k_dSeq (k_dDo (k_dCallV kp_DX7_findFirsts (k_aR (k_aI (k_aI (k_aR (k_aR (k_aR k_aN (k_dGR k_vR)) (k_dGR k_vR)) (k_dGR k_vR)) k_vI) k_vI) (k_dGR k_vR)))) (k_dRet (k_dGI (k_dGR k_vR))))))
theorem kp_DX11_firsts : KExp DX11_firsts := by
  unfold DX11_firsts
  exact (k_M1 kp_BX11_firsts)
theorem kp_BX0_await : KStm BX0_await := by
  unfold BX0_await
  exact (k_dSeq (k_dSetI (k_dCall kp_DX11_cell (k_aI (k_aR k_aN (k_dGR k_vR)) k_vI))) (k_dSeq (k_dIf (k_dCI (k_dGI k_vR) k_cI) k_dRet0 k_dSkip) (k_dSeq (k_dDo (k_dCall kp_DX11_put (k_aI (k_aI (k_aR k_aN (k_dGR k_vR)) (k_dGI k_vR)) k_vI))) (k_dSeq (k_dDo (k_dCall kp_DX11_put (k_aI (k_aI (k_aR k_aN (k_dGR k_vR)) (k_dGI k_vR)) k_vI))) (k_dSeq (k_dDo (k_dCall kp_DX11_put (k_aI (k_aI (k_aR k_aN (k_dGR k_vR)) k_vI) (k_dGI k_vR)))) (k_dSeq (k_dUF (by decide) k_vR k_cI) k_dRet0))))))
theorem kp_DX0_await : KExp DX0_await := by
  unfold DX0_await
  exact (k_M1 kp_BX0_await)
theorem kp_LX0_settle_1 : KStm LX0_settle_1 := by
  unfold LX0_settle_1
  exact (k_dLoop (k_dCI k_vI (k_dGI k_vR)) (k_dIf (k_dCZ (k_dCall kp_DX11_hasBit (k_aI (k_aI k_aN (k_dCall kp_DX11_cell (k_aI (k_aR k_aN (k_dGR k_vR)) k_vI))) k_vI))) (k_dSeq (k_dSetI (k_d2 k_vI (k_d2 k_vI (k_dCallV kp_DX5_climbTo (k_aI (k_aI (k_aR k_aN k_vR) k_vI) k_vI))))) (k_dDo (k_dCallV kp_DX0_await (k_aI (k_aI (k_aR k_aN k_vR) (k_d2 k_vI (k_d2 (k_d2 k_vI (k_d2 k_cI k_vI)) k_cI))) k_vI)))) k_dSkip) k_dInc)
theorem kp_BX0_settle : KStm BX0_settle := by
  unfold BX0_settle
  exact (k_dSeq (k_dSetI (k_dCall kp_DX0_houseOf (k_aI k_aN k_vI))) (k_dSeq (k_dSetI (k_dCall kp_DX0_setOf (k_aI k_aN k_vI))) (k_dSeq (k_dIf (k_dNot (k_dCZ (k_dCallV kp_DX0_markSeen (k_aI (k_aI (k_aR k_aN k_vR) k_vI) k_vI)))) k_dRet0 k_dSkip) (k_dSeq (k_dIf (k_dCI (k_dCall kp_DX11_cell (k_aI (k_aR k_aN (k_dGR k_vR)) k_vI)) k_cI) (k_dDo (k_dCall kp_DX11_put (k_aI (k_aI (k_aR k_aN (k_dGR k_vR)) k_vI) k_vI))) k_dSkip) (k_dSeq (k_dSetI (k_dCall kp_DX11_cell (k_aI (k_aR k_aN (k_dGR k_vR)) (k_dCall kp_DJ6_bitCount_0f7a4 (k_aI k_aN k_vI))))) (k_dSeq (k_dSeq (k_dSetI k_cI) kp_LX0_settle_1) k_dRet0))))))
theorem kp_DX0_settle : KExp DX0_settle := by
  unfold DX0_settle
  exact (k_M1 kp_BX0_settle)
theorem kp_LX0_findNeeds_1 : KStm LX0_findNeeds_1 := by
  unfold LX0_findNeeds_1
  exact (k_dLoop (k_dAnd (k_dCI k_vI k_cI) (k_dCI (k_dCall kp_DX11_cell (k_aI (k_aR k_aN (k_dGR k_vR)) k_vI)) k_cI)) (k_dSeq (k_dSetI (k_dCall kp_DX11_cell (k_aI (k_aR k_aN (k_dGR k_vR)) k_vI))) (k_dSeq (k_dDo (k_dCall kp_DX11_put (k_aI (k_aI (k_aR k_aN (k_dGR k_vR)) k_vI) (k_dCall kp_DX11_cell (k_aI (k_aR k_aN (k_dGR k_vR)) k_vI))))) (k_dDo (k_dCallV kp_DX0_settle (k_aI (k_aI (k_aR (k_aR k_aN k_vR) k_vR) (k_dCall kp_DX11_cell (k_aI (k_aR k_aN (k_dGR k_vR)) k_vI))) k_vI))))) k_dInc)
theorem kp_LX0_findNeeds_2 : KStm LX0_findNeeds_2 := by
  unfold LX0_findNeeds_2
  exact (k_dLoop (k_dCI k_vI k_cI) (k_dSeq (k_dSetI k_cI) kp_LX0_findNeeds_1) k_dInc)
theorem kp_BX0_findNeeds : KStm BX0_findNeeds := by
  unfold BX0_findNeeds
  exact (k_dSeq (k_dIf (k_dCI (k_dGI k_vR) k_vI) k_dRet0 k_dSkip) (k_dSeq (k_dP (k_fI (by decide)) k_vR k_vI) (k_dSeq (k_dDo (k_dCallV kp_DX0_prepare (k_aI (k_aR (k_aR k_aN k_vR) k_vR) k_vI))) (k_dSeq (k_dDo (k_dCall kp_DJ7_fill_53178 (k_aI (k_aR k_aN (k_dGR k_vR)) k_cI))) (k_dSeq (k_dDo (k_dCall kp_DJ7_fill_53178 (k_aI (k_aR k_aN (k_dGR k_vR)) k_cI))) (k_dSeq (k_dP (k_fI (by decide)) k_vR k_cI) (k_dSeq (k_dSetI (k_dCall kp_DX11_cell (k_aI (k_aR k_aN (k_dGR k_vR)) k_vI))) (k_dSeq (k_dDo (k_dCallV kp_DX0_await (k_aI (k_aI (k_aR k_aN k_vR) (k_d2 k_vI (k_d2 (k_d2 k_cI k_vI) k_cI))) k_cI))) (k_dSeq (k_dSeq (k_dSetI k_cI) kp_LX0_findNeeds_2) k_dRet0)))))))))
theorem kp_DX0_findNeeds : KExp DX0_findNeeds := by
  unfold DX0_findNeeds
  exact (k_M1 kp_BX0_findNeeds)
theorem kp_LX11_four_1 : KStm LX11_four_1 := by
  unfold LX11_four_1
  exact (k_dLoop (k_dCI k_vI (k_dCallV kp_DX5_allCarriers (k_aR k_aN (k_dGR k_vR)))) (k_dSeq (k_dSetI (k_dB (k_dCI (k_dCallV kp_DX5_strongTogether (k_aI (k_aR k_aN (k_dGR k_vR)) k_vI)) k_vI))) (k_dIf (k_dAnd (k_dCZ k_vI) (k_dOr (k_dCI k_vI k_cI) (k_dCI (k_dCall kp_DJ6_bitCount_0f7a4 (k_aI k_aN k_vI)) (k_dCall kp_DJ6_bitCount_0f7a4 (k_aI k_aN k_vI))))) (k_dSetI k_vI) k_dSkip)) k_dInc)
theorem kp_BX11_four : KStm BX11_four := by
  unfold BX11_four
  exact (k_dSeq (k_dIf (k_dOr (k_dNot (k_dCZ (k_dCallV kp_DX5_isSlate (k_aI (k_aR k_aN (k_dGR k_vR)) k_vI)))) (k_dNot (k_dCZ (k_dCallV kp_DX5_isHouse (k_aI (k_aR k_aN (k_dGR k_vR)) k_vI))))) (k_dRet k_cI) k_dSkip) (k_dSeq (k_dDo (k_dCallV kp_DX0_findNeeds (k_aI (k_aR (k_aR k_aN (k_dGR k_vR)) (k_dGR k_vR)) k_vI))) (k_dSeq (k_dSetI (k_dCall kp_DX11_cell (k_aI (k_aR k_aN (k_dGR (k_dGR k_vR))) k_vI))) (k_dSeq (k_dSetI k_cI) (k_dSeq (k_dIf (k_dCI k_vI k_cI) (k_dRet k_cI) k_dSkip) (k_dSeq (k_dSeq (k_dSetI k_cI) kp_LX11_four_1) (k_dRet k_vI)))))))
theorem kp_DX11_four : KExp DX11_four := by
  unfold DX11_four
  exact (k_M1 kp_BX11_four)
theorem kp_BX11_isSlateOn : KStm BX11_isSlateOn := by
  unfold BX11_isSlateOn
  exact (k_dRet (k_dB (k_dAnd (k_dCZ (k_dCallV kp_DX5_isSlate (k_aI (k_aR k_aN (k_dGR k_vR)) k_vI))) (k_dCZ (k_dCallV kp_DX5_isDay (k_aI (k_aR k_aN (k_dGR k_vR)) k_vI))))))
theorem kp_DX11_isSlateOn : KExp DX11_isSlateOn := by
  unfold DX11_isSlateOn
  exact (k_MZ kp_BX11_isSlateOn)
theorem kp_LX11_full_1 : KStm LX11_full_1 := by
  unfold LX11_full_1
  exact (k_dLoop (k_dCI k_vI (k_dGI (k_dGR k_vR))) (k_dIf (k_dCI (k_dCallV kp_DX3_knownOn (k_aI (k_aI (k_aI (k_aR k_aN (k_dCallV kp_DX11_today (k_aR k_aN k_vR))) k_vI) k_vI) k_vI)) (k_dCallV kp_DX5_allWords (k_aI (k_aR k_aN (k_dGR k_vR)) k_vI))) (k_dSetI (k_d2 k_vI (k_d2 k_cI k_vI))) k_dSkip) k_dInc)
theorem kp_BX11_full : KStm BX11_full := by
  unfold BX11_full
  exact (k_dSeq (k_dIf (k_dNot (k_dCZ (k_dCallV kp_DX11_isSlateOn (k_aI (k_aI (k_aR k_aN k_vR) k_vI) k_vI)))) (k_dRet k_cI) k_dSkip) (k_dSeq (k_dSetI k_cI) (k_dSeq (k_dSeq (k_dSetI k_cI) kp_LX11_full_1) (k_dRet k_vI))))
theorem kp_DX11_full : KExp DX11_full := by
  unfold DX11_full
  exact (k_M1 kp_BX11_full)
theorem kp_BX11_isGame : KStm BX11_isGame := by
  unfold BX11_isGame
  exact (k_dRet (k_dB (k_dAnd (k_dAnd (k_dCZ (k_dCallV kp_DX5_isSlate (k_aI (k_aR k_aN (k_dGR k_vR)) k_vI))) (k_dCZ (k_dCallV kp_DX5_areHouses (k_aI (k_aI (k_aR k_aN (k_dGR k_vR)) k_vI) k_vI)))) (k_dCI k_vI k_vI))))
theorem kp_DX11_isGame : KExp DX11_isGame := by
  unfold DX11_isGame
  exact (k_MZ kp_BX11_isGame)
theorem kp_BX11_shutBy : KStm BX11_shutBy := by
  unfold BX11_shutBy
  exact (k_dSeq (k_dDo (k_dCallV kp_DX2_setAsTold (k_aR (k_aR k_aN (k_dGR (k_dGR k_vR))) (k_dGR k_vR)))) (k_dSeq (k_dP (k_fI (by decide)) (k_dGR (k_dGR k_vR)) (k_d2 (k_dT (k_dCZ k_vI) k_cI (k_d2 k_cI k_vI)) (k_dT (k_dCZ k_vI) k_cI (k_d2 k_cI k_vI)))) (k_dSeq (k_dDo (k_dCallV kp_DX2_runThrough (k_aR (k_aR k_aN (k_dGR (k_dGR k_vR))) (k_dGR k_vR)))) k_dRet0)))
theorem kp_DX11_shutBy : KExp DX11_shutBy := by
  unfold DX11_shutBy
  exact (k_M1 kp_BX11_shutBy)
theorem kp_BX11_gainOf : KStm BX11_gainOf := by
  unfold BX11_gainOf
  exact (k_dSeq (k_dSetI (k_dCall kp_DJ6_bitCount_0f7a4 (k_aI k_aN (k_dCallV kp_DX2_knownBy (k_aI (k_aI (k_aR k_aN (k_dGR (k_dGR k_vR))) k_vI) k_vI))))) (k_dRet (k_d2 k_vI (k_dT (k_dCZ (k_dCall kp_DX11_hasBit (k_aI (k_aI k_aN (k_dGI (k_dGR (k_dGR k_vR)))) k_vI))) k_cI k_cI))))
theorem kp_DX11_gainOf : KExp DX11_gainOf := by
  unfold DX11_gainOf
  exact (k_M1 kp_BX11_gainOf)
theorem kp_BX11_gets : KStm BX11_gets := by
  unfold BX11_gets
  exact (k_dSeq (k_dIf (k_dOr (k_dOr (k_dNot (k_dCZ (k_dCallV kp_DX11_isGame (k_aI (k_aI (k_aI (k_aR k_aN k_vR) k_vI) k_vI) k_vI)))) (k_dNot (k_dCZ (k_dCall kp_DX11_isChoice (k_aI k_aN k_vI))))) (k_dNot (k_dCZ (k_dCall kp_DX11_isChoice (k_aI k_aN k_vI))))) (k_dRet k_cI) k_dSkip) (k_dSeq (k_dDo (k_dCallV kp_DX11_shutBy (k_aI (k_aI (k_aI (k_aI (k_aR k_aN k_vR) k_vI) k_vI) k_vI) k_vI))) (k_dRet (k_dCallV kp_DX11_gainOf (k_aI (k_aI (k_aR k_aN k_vR) k_vI) k_vI)))))
theorem kp_DX11_gets : KExp DX11_gets := by
  unfold DX11_gets
  exact (k_M1 kp_BX11_gets)
theorem kp_LX11_gossip_1 : KStm LX11_gossip_1 := by
  unfold LX11_gossip_1
  exact (k_dLoop (k_dCI k_vI (k_dGI (k_dGR k_vR))) (k_dSetI (k_d2 k_vI (k_dCall kp_DJ6_bitCount_0f7a4 (k_aI k_aN (k_dCallV kp_DX3_knownOn (k_aI (k_aI (k_aI (k_aR k_aN k_vR) k_vI) k_vI) (k_dGI (k_dGR k_vR)))))))) k_dInc)
theorem kp_LX11_gossip_2 : KStm LX11_gossip_2 := by
  unfold LX11_gossip_2
  exact (k_dLoop (k_dCI k_vI (k_dGI (k_dGR k_vR))) (k_dSeq (k_dSetI k_cI) (k_dSeq (k_dSeq (k_dSetI k_cI) kp_LX11_gossip_1) (k_dIf (k_dCI k_vI k_vI) (k_dSeq (k_dSetI k_vI) (k_dSetI k_vI)) k_dSkip))) k_dInc)
theorem kp_BX11_gossip : KStm BX11_gossip := by
  unfold BX11_gossip
  exact (k_dSeq (k_dIf (k_dNot (k_dCZ (k_dCallV kp_DX5_isTold (k_aR k_aN (k_dGR k_vR))))) (k_dRet k_cI) k_dSkip) (k_dSeq (k_dSetR (k_dCallV kp_DX11_today (k_aR k_aN k_vR))) (k_dSeq (k_dSetI k_cI) (k_dSeq (k_dSetI k_cI) (k_dSeq (k_dSeq (k_dSetI k_cI) kp_LX11_gossip_2) (k_dRet k_vI))))))
theorem kp_DX11_gossip : KExp DX11_gossip := by
  unfold DX11_gossip
  exact (k_M1 kp_BX11_gossip)
theorem kp_BX11_heard : KStm BX11_heard := by
  unfold BX11_heard
  exact (k_dRet (k_dT (k_dCZ (k_dCallV kp_DX11_isSlateOn (k_aI (k_aI (k_aR k_aN k_vR) k_vI) k_vI))) (k_dCallV kp_DX3_hearersOn (k_aI (k_aI (k_aR (k_aR k_aN (k_dCallV kp_DX11_today (k_aR k_aN k_vR))) (k_dGR k_vR)) k_vI) k_vI)) k_cI))
theorem kp_DX11_heard : KExp DX11_heard := by
  unfold DX11_heard
  exact (k_M1 kp_BX11_heard)
theorem kp_BX11_house : KStm BX11_house := by
  unfold BX11_house
  exact (k_dRet (k_dT (k_dCZ (k_dCallV kp_DX5_isHouse (k_aI (k_aR k_aN (k_dGR k_vR)) k_vI))) (k_dCall kp_DX11_cell (k_aI (k_aR k_aN (k_dGR (k_dGR k_vR))) k_vI)) k_cI))
theorem kp_DX11_house : KExp DX11_house := by
  unfold DX11_house
  exact (k_M1 kp_BX11_house)
theorem kp_BX3_outOn : KStm BX3_outOn := by
  unfold BX3_outOn
  exact (k_dRet (k_dCall kp_DX11_cell (k_aI (k_aR k_aN (k_dGR k_vR)) k_vI)))
theorem kp_DX3_outOn : KExp DX3_outOn := by
  unfold DX3_outOn
  exact (k_M1 kp_BX3_outOn)
theorem kp_BX11_idle : KStm BX11_idle := by
  unfold BX11_idle
  exact (k_dSeq (k_dIf (k_dNot (k_dCZ (k_dCallV kp_DX5_isDayAhead (k_aI (k_aR k_aN (k_dGR k_vR)) k_vI)))) (k_dRet k_cI) k_dSkip) (k_dRet (k_d2 (k_dCallV kp_DX5_allCarriers (k_aR k_aN (k_dGR k_vR))) (k_d2 (k_dCallV kp_DX3_outOn (k_aI (k_aR k_aN (k_dCallV kp_DX11_today (k_aR k_aN k_vR))) k_vI)) k_cI))))
theorem kp_DX11_idle : KExp DX11_idle := by
  unfold DX11_idle
  exact (k_M1 kp_BX11_idle)
theorem kp_BX1_init : KStm BX1_init := by
  unfold BX1_init
  exact (k_dSeq k_dSup (k_dSeq (k_dP (k_fR (by decide)) k_vR (k_dNewA k_cI)) (k_dSeq (k_dP (k_fR (by decide)) k_vR (k_dNewA k_cI)) (k_dSeq (k_dP (k_fR (by decide)) k_vR (k_dNewA k_cI)) (k_dSeq (k_dP (k_fR (by decide)) k_vR (k_dNewA k_cI)) (k_dSeq (k_dP (k_fR (by decide)) k_vR (k_dNewA k_cI)) (k_dSeq (k_dP (k_fR (by decide)) k_vR (k_dNewA k_cI)) k_dRet0)))))))
theorem kp_DX1_init : KExp DX1_init := by
  unfold DX1_init
  exact (k_M1 kp_BX1_init)
theorem kp_BX5_init : KStm BX5_init := by
  unfold BX5_init
  exact (k_dSeq k_dSup (k_dSeq (k_dP (k_fR (by decide)) k_vR (k_dNewA k_cI)) (k_dSeq (k_dP (k_fR (by decide)) k_vR (k_dNewA k_cI)) (k_dSeq (k_dP (k_fR (by decide)) k_vR (k_dNewA k_cI)) (k_dSeq (k_dP (k_fR (by decide)) k_vR (k_dNewA k_cI)) (k_dSeq (k_dP (k_fR (by decide)) k_vR (k_dNewA k_cI)) (k_dSeq (k_dP (k_fR (by decide)) k_vR (k_dNewA k_cI)) (k_dSeq (k_dP (k_fR (by decide)) k_vR (k_dNewA k_cI)) (k_dSeq (k_dP (k_fR (by decide)) k_vR (k_dNewA k_cI)) (k_dSeq (k_dP (k_fR (by decide)) k_vR (k_dNewC kp_DX1_init)) k_dRet0))))))))))
theorem kp_DX5_init : KExp DX5_init := by
  unfold DX5_init
  exact (k_M1 kp_BX5_init)
theorem kp_BX11_image : KStm BX11_image := by
  unfold BX11_image
  exact (k_dSeq (k_dIf (k_dOr (k_dCZ k_vI) (k_dCI k_vI (k_dLen (k_dGR k_vR)))) (k_dRet k_cI) k_dSkip) (k_dSeq (k_dIf (k_dNot (k_dNN (k_dAR (k_dGR k_vR) k_vI))) (k_d3 k_stR (k_dGR k_vR) k_vI (k_dNewC kp_DX5_init)) k_dSkip) (k_dSeq (k_dDo (k_dCallV kp_DX5_copy (k_aR (k_aR k_aN (k_dAR (k_dGR k_vR) k_vI)) (k_dGR k_vR)))) (k_dRet k_cI))))
theorem kp_DX11_image : KExp DX11_image := by
  unfold DX11_image
  exact (k_M1 kp_BX11_image)
theorem kp_BX9_init : KStm BX9_init := by
  unfold BX9_init
  exact (k_dSeq k_dSup (k_dSeq (k_dP (k_fR (by decide)) k_vR (k_dNewA k_cI)) k_dRet0))
theorem kp_DX9_init : KExp DX9_init := by
  unfold DX9_init
  exact (k_M1 kp_BX9_init)
theorem kp_BX6_init : KStm BX6_init := by
  unfold BX6_init
  exact (k_dSeq k_dSup (k_dSeq (k_dP (k_fI (by decide)) k_vR k_cI) k_dRet0))
theorem kp_DX6_init : KExp DX6_init := by
  unfold DX6_init
  exact (k_M1 kp_BX6_init)
theorem kp_BX8_init : KStm BX8_init := by
  unfold BX8_init
  exact (k_dSeq k_dSup (k_dSeq (k_dP (k_fR (by decide)) k_vR (k_dNewA k_cI)) (k_dSeq (k_dP (k_fR (by decide)) k_vR (k_dNewA k_cI)) (k_dSeq (k_dP (k_fR (by decide)) k_vR (k_dNewA k_cI)) k_dRet0))))
theorem kp_DX8_init : KExp DX8_init := by
  unfold DX8_init
  exact (k_M1 kp_BX8_init)
theorem kp_BX2_init : KStm BX2_init := by
  unfold BX2_init
  exact (k_dSeq k_dSup (k_dSeq (k_dP (k_fR (by decide)) k_vR (k_dNewA k_cI)) (k_dSeq (k_dP (k_fR (by decide)) k_vR (k_dNewA k_cI)) (k_dSeq (k_dP (k_fR (by decide)) k_vR (k_dNewA k_cI)) (k_dSeq (k_dP (k_fR (by decide)) k_vR (k_dNewA k_cI)) (k_dSeq (k_dP (k_fR (by decide)) k_vR (k_dNewA k_cI)) (k_dSeq (k_dP (k_fR (by decide)) k_vR (k_dNewA k_cI)) (k_dSeq (k_dP (k_fR (by decide)) k_vR (k_dNewA k_cI)) k_dRet0))))))))
theorem kp_DX2_init : KExp DX2_init := by
  unfold DX2_init
  exact (k_M1 kp_BX2_init)
theorem kp_BX3_init : KStm BX3_init := by
  unfold BX3_init
  exact (k_dSeq k_dSup (k_dSeq (k_dP (k_fR (by decide)) k_vR (k_dNewC kp_DX2_init)) (k_dSeq (k_dP (k_fR (by decide)) k_vR (k_dNewA k_cI)) (k_dSeq (k_dP (k_fR (by decide)) k_vR (k_dNewA k_cI)) (k_dSeq (k_dP (k_fR (by decide)) k_vR (k_dNewA k_cI)) (k_dSeq (k_dP (k_fR (by decide)) k_vR (k_dNewA k_cI)) (k_dSeq (k_dP (k_fR (by decide)) k_vR (k_dNewA k_cI)) k_dRet0)))))))
theorem kp_DX3_init : KExp DX3_init := by
  unfold DX3_init
  exact (k_M1 kp_BX3_init)
theorem kp_BX4_init : KStm BX4_init := by
  unfold BX4_init
  exact (k_dSeq k_dSup (k_dSeq (k_dP (k_fR (by decide)) k_vR (k_dNewA k_cI)) k_dRet0))
theorem kp_DX4_init : KExp DX4_init := by
  unfold DX4_init
  exact (k_M1 kp_BX4_init)
theorem kp_BX0_init : KStm BX0_init := by
  unfold BX0_init
  exact (k_dSeq k_dSup (k_dSeq (k_dP (k_fR (by decide)) k_vR (k_dNewA k_cI)) (k_dSeq (k_dP (k_fR (by decide)) k_vR (k_dNewA k_cI)) (k_dSeq (k_dP (k_fR (by decide)) k_vR (k_dNewA k_cI)) (k_dSeq (k_dP (k_fR (by decide)) k_vR (k_dNewA k_cI)) (k_dSeq (k_dP (k_fR (by decide)) k_vR (k_dNewA k_cI)) (k_dSeq (k_dP (k_fR (by decide)) k_vR (k_dNewA k_cI)) (k_dSeq (k_dP (k_fR (by decide)) k_vR (k_dNewA k_cI)) (k_dSeq (k_dP (k_fR (by decide)) k_vR (k_dNewA k_cI)) (k_dSeq (k_dP (k_fR (by decide)) k_vR (k_dNewA k_cI)) (k_dSeq (k_dP (k_fR (by decide)) k_vR (k_dNewA k_cI)) (k_dSeq (k_dP (k_fR (by decide)) k_vR (k_dNewA k_cI)) (k_dSeq (k_dP (k_fR (by decide)) k_vR (k_dNewA k_cI)) (k_dSeq (k_dP (k_fI (by decide)) k_vR k_cI) (k_dSeq (k_dP (k_fI (by decide)) k_vR k_cI) (k_dSeq (k_dP (k_fI (by decide)) k_vR k_cI) k_dRet0))))))))))))))))
theorem kp_DX0_init : KExp DX0_init := by
  unfold DX0_init
  exact (k_M1 kp_BX0_init)
theorem kp_BX10_init : KStm BX10_init := by
  unfold BX10_init
  exact (k_dSeq k_dSup (k_dSeq (k_dP (k_fR (by decide)) k_vR (k_dNewA k_cI)) (k_dSeq (k_dP (k_fR (by decide)) k_vR (k_dNewA k_cI)) k_dRet0)))
theorem kp_DX10_init : KExp DX10_init := by
  unfold DX10_init
  exact (k_M1 kp_BX10_init)
theorem kp_BX7_init : KStm BX7_init := by
  unfold BX7_init
  exact (k_dSeq k_dSup (k_dSeq (k_dP (k_fR (by decide)) k_vR (k_dNewA k_cI)) k_dRet0))
theorem kp_DX7_init : KExp DX7_init := by
  unfold DX7_init
  exact (k_M1 kp_BX7_init)
theorem kp_BX11_init : KStm BX11_init := by
  unfold BX11_init
  exact (k_dSeq k_dSup (k_dSeq (k_dP (k_fR (by decide)) k_vR (k_dNewC kp_DX9_init)) (k_dSeq (k_dP (k_fR (by decide)) k_vR (k_dNewC kp_DX6_init)) (k_dSeq (k_dP (k_fR (by decide)) k_vR (k_dNewC kp_DX5_init)) (k_dSeq (k_dP (k_fR (by decide)) k_vR (k_dNewC kp_DX5_init)) (k_dSeq (k_dP (k_fR (by decide)) k_vR (k_dNewA k_cI)) (k_dSeq (k_dP (k_fR (by decide)) k_vR (k_dNewC kp_DX8_init)) (k_dSeq (k_dP (k_fR (by decide)) k_vR (k_dNewC kp_DX3_init)) (k_dSeq (k_dP (k_fR (by decide)) k_vR (k_dNewC kp_DX3_init)) (k_dSeq (k_dP (k_fR (by decide)) k_vR (k_dNewC kp_DX4_init)) (k_dSeq (k_dP (k_fR (by decide)) k_vR (k_dNewC kp_DX0_init)) (k_dSeq (k_dP (k_fR (by decide)) k_vR (k_dNewC kp_DX10_init)) (k_dSeq (k_dP (k_fR (by decide)) k_vR (k_dNewC kp_DX7_init)) (k_dSeq (k_dP (k_fR (by decide)) k_vR (k_dNewA k_cI)) (k_dSeq (k_dP (k_fR (by decide)) k_vR (k_dNewA k_cI)) k_dRet0)))))))))))))))
theorem kp_DX11_init : KExp DX11_init := by
  unfold DX11_init
  exact (k_M1 kp_BX11_init)
theorem kp_BX11_knows : KStm BX11_knows := by
  unfold BX11_knows
  exact (k_dSeq (k_dIf (k_dOr (k_dNot (k_dCZ (k_dCallV kp_DX5_isHouse (k_aI (k_aR k_aN (k_dGR k_vR)) k_vI)))) (k_dNot (k_dCZ (k_dCallV kp_DX11_isSlateOn (k_aI (k_aI (k_aR k_aN k_vR) k_vI) k_vI))))) (k_dRet k_cI) k_dSkip) (k_dRet (k_dCallV kp_DX3_knownOn (k_aI (k_aI (k_aI (k_aR k_aN (k_dCallV kp_DX11_today (k_aR k_aN k_vR))) k_vI) k_vI) k_vI))))
theorem kp_DX11_knows : KExp DX11_knows := by
  unfold DX11_knows
  exact (k_M1 kp_BX11_knows)
theorem kp_LX11_law_1 : KStm LX11_law_1 := by
  unfold LX11_law_1
  exact (k_dLoop (k_dCI k_vI k_cI) (k_dSeq (k_dSetI (k_dCall kp_DJ6_bitCount_0f7a4 (k_aI k_aN (k_dCallV kp_DX11_hearersBy (k_aI (k_aI (k_aR k_aN k_vR) k_vI) k_vI))))) (k_dIf (k_dCI k_vI k_vI) (k_dSeq (k_dSetI k_vI) (k_dSetI k_vI)) k_dSkip)) k_dInc)
theorem kp_BX11_law : KStm BX11_law := by
  unfold BX11_law
  exact (k_dSeq (k_dIf (k_dNot (k_dCZ (k_dCallV kp_DX5_isSlate (k_aI (k_aR k_aN (k_dGR k_vR)) k_vI)))) (k_dRet k_cI) k_dSkip) (k_dSeq (k_dSetI k_cI) (k_dSeq (k_dSetI k_cI) (k_dSeq (k_dSeq (k_dSetI k_cI) kp_LX11_law_1) (k_dRet k_vI)))))
theorem kp_DX11_law : KExp DX11_law := by
  unfold DX11_law
  exact (k_M1 kp_BX11_law)
theorem kp_BX3_leftOn : KStm BX3_leftOn := by
  unfold BX3_leftOn
  exact (k_dRet (k_dCall kp_DX11_cell (k_aI (k_aR k_aN (k_dGR k_vR)) (k_d2 (k_d2 k_vI k_cI) k_vI))))
theorem kp_DX3_leftOn : KExp DX3_leftOn := by
  unfold DX3_leftOn
  exact (k_M1 kp_BX3_leftOn)
theorem kp_LX11_laws_1 : KStm LX11_laws_1 := by
  unfold LX11_laws_1
  exact (k_dLoop (k_dCI k_vI k_cI) (k_dSeq (k_dDo (k_dCallV kp_DX2_setAsTold (k_aR (k_aR k_aN (k_dGR (k_dGR k_vR))) (k_dGR k_vR)))) (k_dSeq (k_dP (k_fI (by decide)) (k_dGR (k_dGR k_vR)) k_vI) (k_dSeq (k_dDo (k_dCallV kp_DX3_fill (k_aR (k_aR k_aN (k_dGR k_vR)) (k_dGR k_vR)))) (k_dSeq (k_dSetI (k_dB (k_dCI (k_dCallV kp_DX5_weightOf (k_aI (k_aI (k_aR k_aN (k_dGR k_vR)) k_vI) (k_dCallV kp_DX3_leftOn (k_aI (k_aI (k_aR k_aN (k_dGR k_vR)) k_vI) (k_dGI (k_dGR k_vR)))))) k_vI))) (k_dIf (k_dAnd (k_dCZ k_vI) (k_dCZ (k_dCallV kp_DX7_isAsSeen (k_aR (k_aI (k_aI (k_aR (k_aR k_aN (k_dGR k_vR)) (k_dGR k_vR)) k_vI) k_vI) (k_dGR k_vR))))) (k_dSetI (k_d2 k_vI (k_d2 k_cI k_vI))) k_dSkip))))) k_dInc)
theorem kp_BX11_laws : KStm BX11_laws := by
  unfold BX11_laws
  exact (k_dSeq (k_dSetI (k_dCallV kp_DX7_wrongRow (k_aI (k_aI (k_aR (k_aR (k_aR k_aN (k_dGR k_vR)) (k_dGR k_vR)) (k_dGR k_vR)) k_vI) k_vI))) (k_dSeq (k_dIf (k_dCZ k_vI) (k_dRet k_vI) k_dSkip) (k_dSeq (k_dSetI (k_dCallV kp_DX5_weightOf (k_aI (k_aI (k_aR k_aN (k_dGR k_vR)) k_vI) (k_dCallV kp_DX3_leftOn (k_aI (k_aI (k_aR k_aN (k_dCallV kp_DX11_today (k_aR k_aN k_vR))) k_vI) (k_dGI (k_dGR k_vR))))))) (k_dSeq (k_dSetI k_cI) (k_dSeq (k_dSeq (k_dSetI k_cI) kp_LX11_laws_1) (k_dRet k_vI))))))
theorem kp_DX11_laws : KExp DX11_laws := by
  unfold DX11_laws
  exact (k_M1 kp_BX11_laws)
theorem kp_BX11_leaves : KStm BX11_leaves := by
  unfold BX11_leaves
  exact (k_dSeq (k_dSetI (k_dCallV kp_DX7_wrongRow (k_aI (k_aI (k_aR (k_aR (k_aR k_aN (k_dGR k_vR)) (k_dGR k_vR)) (k_dGR k_vR)) k_vI) k_vI))) (k_dSeq (k_dIf (k_dCZ k_vI) (k_dRet k_vI) k_dSkip) (k_dSeq (k_dDo (k_dCallV kp_DX7_findFirsts (k_aR (k_aI (k_aI (k_aR (k_aR (k_aR k_aN (k_dGR k_vR)) (k_dGR k_vR)) (k_dGR k_vR)) k_vI) k_vI) (k_dGR k_vR)))) (k_dSeq (k_dSetI (k_dCallV kp_DX7_bestDay (k_aR (k_aR k_aN (k_dGR k_vR)) (k_dGR k_vR)))) (k_dRet (k_dT (k_dCI k_vI k_cI) (k_dCall kp_DJ6_bitCount_0f7a4 (k_aI k_aN (k_dGI (k_dGR k_vR)))) (k_dCallV kp_DX7_leftAtWorst (k_aI (k_aR k_aN (k_dGR k_vR)) k_vI))))))))
theorem kp_DX11_leaves : KExp DX11_leaves := by
  unfold DX11_leaves
  exact (k_M1 kp_BX11_leaves)
theorem kp_BX11_left : KStm BX11_left := by
  unfold BX11_left
  exact (k_dRet (k_dT (k_dCZ (k_dCallV kp_DX11_isSlateOn (k_aI (k_aI (k_aR k_aN k_vR) k_vI) k_vI))) (k_dCallV kp_DX3_leftOn (k_aI (k_aI (k_aR k_aN (k_dCallV kp_DX11_today (k_aR k_aN k_vR))) k_vI) k_vI)) k_cI))
theorem kp_DX11_left : KExp DX11_left := by
  unfold DX11_left
  exact (k_M1 kp_BX11_left)
theorem kp_BX11_lies : KStm BX11_lies := by
  unfold BX11_lies
  exact (k_dRet (k_dT (k_dCZ (k_dCallV kp_DX11_isSlateOn (k_aI (k_aI (k_aR k_aN k_vR) k_vI) k_vI))) (k_dCallV kp_DX3_slateOn (k_aI (k_aI (k_aR k_aN (k_dCallV kp_DX11_today (k_aR k_aN k_vR))) k_vI) k_vI)) k_cI))
theorem kp_DX11_lies : KExp DX11_lies := by
  unfold DX11_lies
  exact (k_M1 kp_BX11_lies)
theorem kp_BX3_loadOf : KStm BX3_loadOf := by
  unfold BX3_loadOf
  exact (k_dRet (k_dCall kp_DX11_cell (k_aI (k_aR k_aN (k_dGR (k_dGR k_vR))) k_vI)))
theorem kp_DX3_loadOf : KExp DX3_loadOf := by
  unfold DX3_loadOf
  exact (k_M1 kp_BX3_loadOf)
theorem kp_BX11_load : KStm BX11_load := by
  unfold BX11_load
  exact (k_dRet (k_dT (k_dCZ (k_dCallV kp_DX5_isCarry (k_aI (k_aR k_aN (k_dGR k_vR)) k_vI))) (k_dCallV kp_DX3_loadOf (k_aI (k_aR k_aN (k_dCallV kp_DX11_today (k_aR k_aN k_vR))) k_vI)) k_cI))
theorem kp_DX11_load : KExp DX11_load := by
  unfold DX11_load
  exact (k_M1 kp_BX11_load)
theorem kp_LX11_luck_1 : KStm LX11_luck_1 := by
  unfold LX11_luck_1
  exact (k_dLoop (k_dCI k_vI k_vI) (k_dSeq (k_dDo (k_dCallV kp_DX11_runInRain (k_aI (k_aR k_aN k_vR) (k_dCallV kp_DX10_rainDrawn (k_aL (k_aR (k_aR k_aN (k_dGR k_vR)) (k_dGR k_vR)) (k_d2 (k_d1 k_vI) (k_d1 k_vI))))))) (k_dIf (k_dCZ (k_dCallV kp_DX2_knownBy (k_aI (k_aI (k_aR k_aN (k_dGR (k_dGR k_vR))) k_vI) k_vI))) k_dInc k_dSkip)) k_dInc)
theorem kp_BX11_luck : KStm BX11_luck := by
  unfold BX11_luck
  exact (k_dSeq (k_dSetI (k_dB (k_dAnd (k_dCZ (k_dCallV kp_DX5_isSlate (k_aI (k_aR k_aN (k_dGR k_vR)) k_vI))) (k_dCZ (k_dCallV kp_DX5_isHouse (k_aI (k_aR k_aN (k_dGR k_vR)) k_vI)))))) (k_dSeq (k_dIf (k_dOr (k_dOr (k_dOr (k_dNot (k_dCZ k_vI)) (k_dNot (k_dCZ (k_dCall kp_DX11_isSeed (k_aI k_aN k_vI))))) (k_dCI k_vI k_cI)) (k_dCI k_vI k_cI)) (k_dRet k_cI) k_dSkip) (k_dSeq (k_dSetI k_cI) (k_dSeq (k_dSeq (k_dSetI k_cI) kp_LX11_luck_1) (k_dRet k_vI)))))
theorem kp_DX11_luck : KExp DX11_luck := by
  unfold DX11_luck
  exact (k_M1 kp_BX11_luck)
theorem kp_BX10_wordsLeft : KStm BX10_wordsLeft := by
  unfold BX10_wordsLeft
  exact (k_dRet (k_dT (k_dAnd (k_dCZ k_vI) (k_dCI k_vI (k_dLen (k_dGR k_vR)))) (k_dAL (k_dGR k_vR) k_vI) k_cL))
theorem kp_DX10_wordsLeft : KExp DX10_wordsLeft := by
  unfold DX10_wordsLeft
  exact (k_M1 kp_BX10_wordsLeft)
theorem kp_BX11_mean : KStm BX11_mean := by
  unfold BX11_mean
  exact (k_dSeq (k_dIf (k_dOr (k_dNot (k_dCZ (k_dCallV kp_DX5_isSlate (k_aI (k_aR k_aN (k_dGR k_vR)) k_vI)))) (k_dNot (k_dCZ (k_dCall kp_DX11_isChoice (k_aI k_aN k_vI))))) (k_dRet k_cL) k_dSkip) (k_dSeq (k_dIf (k_dCI (k_dGI (k_dGR k_vR)) k_cI) (k_dRet k_cL) k_dSkip) (k_dSeq (k_dDo (k_dCallV kp_DX10_fill (k_aR (k_aR (k_aR k_aN (k_dGR k_vR)) (k_dGR k_vR)) (k_dGR (k_dGR k_vR))))) (k_dRet (k_dCall kp_DX11_inLowestTerms (k_aI (k_aL (k_aL k_aN (k_dCallV kp_DX10_wordsLeft (k_aI (k_aR k_aN (k_dGR k_vR)) k_vI))) (k_dGL (k_dGR k_vR))) k_vI))))))
theorem kp_DX11_mean : KExp DX11_mean := by
  unfold DX11_mean
  exact (k_M1 kp_BX11_mean)
theorem kp_LX3_countDone_1 : KStm LX3_countDone_1 := by
  unfold LX3_countDone_1
  exact (k_dLoop (k_dCI k_vI k_vI) (k_dIf (k_dAnd (k_dCI (k_dCall kp_DX11_cell (k_aI (k_aR k_aN k_vR) k_vI)) k_vI) (k_dCZ (k_dCallV kp_DX3_reasonOf (k_aI (k_aR k_aN k_vR) k_vI)))) k_dInc k_dSkip) k_dInc)
theorem kp_BX3_countDone : KStm BX3_countDone := by
  unfold BX3_countDone
  exact (k_dSeq (k_dSetI k_cI) (k_dSeq (k_dSeq (k_dSetI k_cI) kp_LX3_countDone_1) (k_dRet k_vI)))
theorem kp_DX3_countDone : KExp DX3_countDone := by
  unfold DX3_countDone
  exact (k_M1 kp_BX3_countDone)
theorem kp_BX11_moves : KStm BX11_moves := by
  unfold BX11_moves
  exact (k_dRet (k_dT (k_dCZ (k_dCallV kp_DX5_isSlate (k_aI (k_aR k_aN (k_dGR k_vR)) k_vI))) (k_dCallV kp_DX3_countDone (k_aI (k_aI (k_aR (k_aR k_aN (k_dCallV kp_DX11_today (k_aR k_aN k_vR))) (k_dGR (k_dGR (k_dGR k_vR)))) k_vI) (k_dGI (k_dGR (k_dGR k_vR))))) k_cI))
theorem kp_DX11_moves : KExp DX11_moves := by
  unfold DX11_moves
  exact (k_M1 kp_BX11_moves)
theorem kp_BX11_needs : KStm BX11_needs := by
  unfold BX11_needs
  exact (k_dSeq (k_dIf (k_dOr (k_dNot (k_dCZ (k_dCallV kp_DX5_isSlate (k_aI (k_aR k_aN (k_dGR k_vR)) k_vI)))) (k_dNot (k_dCZ (k_dCallV kp_DX5_isHouse (k_aI (k_aR k_aN (k_dGR k_vR)) k_vI))))) (k_dRet k_cI) k_dSkip) (k_dSeq (k_dDo (k_dCallV kp_DX0_findNeeds (k_aI (k_aR (k_aR k_aN (k_dGR k_vR)) (k_dGR k_vR)) k_vI))) (k_dRet (k_dCall kp_DX11_cell (k_aI (k_aR k_aN (k_dGR (k_dGR k_vR))) k_vI)))))
theorem kp_DX11_needs : KExp DX11_needs := by
  unfold DX11_needs
  exact (k_M1 kp_BX11_needs)
theorem kp_BX8_isWithin : KStm BX8_isWithin := by
  unfold BX8_isWithin
  exact (k_dRet (k_dB (k_dAnd (k_dAnd (k_dCZ k_vI) (k_dCZ k_vI)) (k_dCZ (k_d2 (k_d2 (k_d1 k_vI) (k_d1 k_vI)) (k_d1 (k_dCallV kp_DX8_sizeOf (k_aI (k_aR k_aN k_vR) k_vI))))))))
theorem kp_DX8_isWithin : KExp DX8_isWithin := by
  unfold DX8_isWithin
  exact (k_MZ kp_BX8_isWithin)
theorem kp_BX8_move : KStm BX8_move := by
  unfold BX8_move
  exact (k_dSeq (k_dIf (k_dOr (k_dNot (k_dCZ (k_dCallV kp_DX8_isSlot (k_aI (k_aR k_aN k_vR) k_vI)))) (k_dNot (k_dCZ (k_dCallV kp_DX8_isSlot (k_aI (k_aR k_aN k_vR) k_vI))))) (k_dRet k_cI) k_dSkip) (k_dSeq (k_dIf (k_dOr (k_dNot (k_dCZ (k_dCallV kp_DX8_hasRow (k_aI (k_aR k_aN k_vR) k_vI)))) (k_dNot (k_dCZ (k_dCallV kp_DX8_hasRow (k_aI (k_aR k_aN k_vR) k_vI))))) (k_dRet k_cI) k_dSkip) (k_dSeq (k_dIf (k_dCI (k_dCall kp_DX11_cell (k_aI (k_aR k_aN (k_dGR k_vR)) k_vI)) (k_dCall kp_DX11_cell (k_aI (k_aR k_aN (k_dGR k_vR)) k_vI))) (k_dRet k_cI) k_dSkip) (k_dSeq (k_dIf (k_dOr (k_dNot (k_dCZ (k_dCallV kp_DX8_isWithin (k_aI (k_aI (k_aI (k_aR k_aN k_vR) k_vI) k_vI) k_vI)))) (k_dNot (k_dCZ (k_dCallV kp_DX8_isWithin (k_aI (k_aI (k_aI (k_aR k_aN k_vR) k_vI) k_vI) k_vI))))) (k_dRet k_cI) k_dSkip) (k_dSeq (k_dCp (by decide) (k_aI (k_aI (k_aR (k_aI (k_aR k_aN (k_dGR k_vR)) (k_d2 (k_d2 k_vI k_cI) k_vI)) (k_dGR k_vR)) (k_d2 (k_d2 k_vI k_cI) k_vI)) k_vI)) (k_dRet k_cI))))))
theorem kp_DX8_move : KExp DX8_move := by
  unfold DX8_move
  exact (k_M1 kp_BX8_move)
theorem kp_BX11_paste : KStm BX11_paste := by
  unfold BX11_paste
  exact (k_dRet (k_dCallV kp_DX8_move (k_aI (k_aI (k_aI (k_aI (k_aI (k_aR k_aN (k_dGR k_vR)) k_vI) k_vI) k_vI) k_vI) k_vI)))
theorem kp_DX11_paste : KExp DX11_paste := by
  unfold DX11_paste
  exact (k_M1 kp_BX11_paste)
theorem kp_BX1_clear : KStm BX1_clear := by
  unfold BX1_clear
  exact (k_dSeq (k_dP (k_fI (by decide)) k_vR k_cI) (k_dSeq (k_dP (k_fI (by decide)) k_vR k_cI) (k_dSeq (k_dP (k_fI (by decide)) k_vR k_cI) k_dRet0)))
theorem kp_DX1_clear : KExp DX1_clear := by
  unfold DX1_clear
  exact (k_M1 kp_BX1_clear)
theorem kp_BX5_clear : KStm BX5_clear := by
  unfold BX5_clear
  exact (k_dSeq (k_dP (k_fI (by decide)) k_vR k_cI) (k_dSeq (k_dP (k_fI (by decide)) k_vR k_cI) (k_dSeq (k_dP (k_fI (by decide)) k_vR k_cI) (k_dSeq (k_dP (k_fI (by decide)) k_vR k_cI) (k_dSeq (k_dP (k_fI (by decide)) k_vR k_cI) (k_dSeq (k_dP (k_fI (by decide)) k_vR k_cI) (k_dSeq (k_dP (k_fI (by decide)) k_vR k_cI) (k_dSeq (k_dP (k_fI (by decide)) k_vR k_cI) (k_dSeq (k_dDo (k_dCallV kp_DX1_clear (k_aR k_aN (k_dGR k_vR)))) k_dRet0)))))))))
theorem kp_DX5_clear : KExp DX5_clear := by
  unfold DX5_clear
  exact (k_M1 kp_BX5_clear)
theorem kp_BX9_rewind : KStm BX9_rewind := by
  unfold BX9_rewind
  exact (k_dSeq (k_dP (k_fI (by decide)) k_vR k_cI) k_dRet0)
theorem kp_DX9_rewind : KExp DX9_rewind := by
  unfold DX9_rewind
  exact (k_M1 kp_BX9_rewind)
theorem kp_BX9_isBlank : KStm BX9_isBlank := by
  unfold BX9_isBlank
  exact (k_dRet (k_dB (k_dOr (k_dCI k_vI k_cI) (k_dCI k_vI k_cI))))
theorem kp_DX9_isBlank : KExp DX9_isBlank := by
  unfold DX9_isBlank
  exact (k_MZ kp_BX9_isBlank)
theorem kp_BX9_byteAt : KStm BX9_byteAt := by
  unfold BX9_byteAt
  exact (k_dRet (k_dT (k_dAnd (k_dAnd (k_dCZ k_vI) (k_dCI k_vI (k_dGI k_vR))) (k_dCI k_vI (k_dLen (k_dGR k_vR)))) (k_dAB (k_dGR k_vR) k_vI) k_cI))
theorem kp_DX9_byteAt : KExp DX9_byteAt := by
  unfold DX9_byteAt
  exact (k_M1 kp_BX9_byteAt)
theorem kp_LX9_next_1 : KStm LX9_next_1 := by
  unfold LX9_next_1
  exact (k_dLoop (k_dAnd (k_dCI (k_dGI k_vR) (k_dGI k_vR)) (k_dCZ (k_dCall kp_DX9_isBlank (k_aI k_aN (k_dCallV kp_DX9_byteAt (k_aI (k_aR k_aN k_vR) (k_dGI k_vR))))))) (k_dUF (by decide) k_vR k_cI) k_dSkip)
theorem kp_BX9_kindOf : KStm BX9_kindOf := by
  unfold BX9_kindOf
  exact (k_dSeq (k_dIf (k_dAnd (k_dCI k_vI k_cI) (k_dCI k_vI k_cI)) (k_dRet k_cI) k_dSkip) (k_dSeq (k_dIf (k_dAnd (k_dCI k_vI k_cI) (k_dCI k_vI k_cI)) (k_dRet k_cI) k_dSkip) (k_dRet (k_dT (k_dCI k_vI k_cI) k_cI k_cI))))
theorem kp_DX9_kindOf : KExp DX9_kindOf := by
  unfold DX9_kindOf
  exact (k_M1 kp_BX9_kindOf)
theorem kp_LX9_next_2 : KStm LX9_next_2 := by
  unfold LX9_next_2
  exact (k_dDoW (k_dSeq (k_dIf (k_dCI (k_dGI k_vR) k_cI) (k_dP (k_fI (by decide)) k_vR (k_d2 k_cI (k_d2 (k_d2 (k_d2 (k_dGI k_vR) k_cI) (k_dCallV kp_DX9_byteAt (k_aI (k_aR k_aN k_vR) (k_dGI k_vR)))) k_cI))) k_dSkip) (k_dUF (by decide) k_vR k_cI)) (k_dAnd (k_dAnd (k_dCZ k_vI) (k_dCI (k_dGI k_vR) (k_dGI k_vR))) (k_dCI (k_dCall kp_DX9_kindOf (k_aI k_aN (k_dCallV kp_DX9_byteAt (k_aI (k_aR k_aN k_vR) (k_dGI k_vR))))) (k_dGI k_vR))))
theorem kp_BX9_next : KStm BX9_next := by
  unfold BX9_next
  exact (k_dSeq (k_dP (k_fI (by decide)) k_vR (k_dGI k_vR)) (k_dSeq kp_LX9_next_1 (k_dSeq (k_dP (k_fI (by decide)) k_vR (k_dGI k_vR)) (k_dSeq (k_dP (k_fI (by decide)) k_vR k_cI) (k_dSeq (k_dIf (k_dCI (k_dGI k_vR) (k_dGI k_vR)) (k_dSeq (k_dP (k_fI (by decide)) k_vR k_cI) k_dRet0) k_dSkip) (k_dSeq (k_dP (k_fI (by decide)) k_vR (k_dCall kp_DX9_kindOf (k_aI k_aN (k_dCallV kp_DX9_byteAt (k_aI (k_aR k_aN k_vR) (k_dGI k_vR)))))) (k_dSeq (k_dSetI (k_dB (k_dOr (k_dCI (k_dGI k_vR) k_cI) (k_dCI (k_dGI k_vR) k_cI)))) (k_dSeq kp_LX9_next_2 k_dRet0))))))))
theorem kp_DX9_next : KExp DX9_next := by
  unfold DX9_next
  exact (k_M1 kp_BX9_next)
theorem kp_BJ0_coder_7d493 : KStm BJ0_coder_7d493 := by
  unfold BJ0_coder_7d493
  exact (k_dRet (k_dT (k_dCZ k_cI) (k_dTc k_vR) k_cI))
theorem kp_DJ0_coder_7d493 : KExp DJ0_coder_7d493 := by
  unfold DJ0_coder_7d493
  exact (k_MN kp_BJ0_coder_7d493)
theorem kp_BJ0_length_8abf5 : KStm BJ0_length_8abf5 := by
  unfold BJ0_length_8abf5
  exact (k_dRet (k_d2 (k_dLen (k_dTv k_vR)) (k_dCallV kp_DJ0_coder_7d493 (k_aR k_aN k_vR))))
theorem kp_DJ0_length_8abf5 : KExp DJ0_length_8abf5 := by
  unfold DJ0_length_8abf5
  exact (k_M1 kp_BJ0_length_8abf5)
theorem kp_BJ0_isLatin1_aae02 : KStm BJ0_isLatin1_aae02 := by
  unfold BJ0_isLatin1_aae02
  exact (k_dRet (k_dB (k_dAnd (k_dCZ k_cI) (k_dCZ (k_dTc k_vR)))))
theorem kp_DJ0_isLatin1_aae02 : KExp DJ0_isLatin1_aae02 := by
  unfold DJ0_isLatin1_aae02
  exact (k_MZ kp_BJ0_isLatin1_aae02)
theorem kp_b_chk2 : KStm b_chk2 := by
  intro f h b e
  unfold b_chk2 at e
  split at e
  · cases e; exact K1.rf _
  · cases e
theorem kp_D_chk : KExp D_chk := by
  unfold D_chk
  exact (k_M1 (k_dSeq kp_b_chk2 k_dRet0))
theorem kp_DJ0_checkIndex_df160 : KExp DJ0_checkIndex_df160 := by
  unfold DJ0_checkIndex_df160
  exact kp_D_chk
theorem kp_BJ1_charAt_3b067 : KStm BJ1_charAt_3b067 := by
  unfold BJ1_charAt_3b067
  exact (k_dSeq (k_dDo (k_dCall kp_DJ0_checkIndex_df160 (k_aI (k_aI k_aN k_vI) (k_dLen k_vR)))) (k_dRet (k_d1 (k_d2 (k_dAB k_vR k_vI) k_cI))))
theorem kp_DJ1_charAt_3b067 : KExp DJ1_charAt_3b067 := by
  unfold DJ1_charAt_3b067
  exact (k_MN kp_BJ1_charAt_3b067)
theorem kp_DJ2_charAt_3b067 : KExp DJ2_charAt_3b067 := by
  intro f h b e
  cases e
theorem kp_BJ0_charAt_5068e : KStm BJ0_charAt_5068e := by
  unfold BJ0_charAt_5068e
  exact (k_dIf (k_dCZ (k_dCallV kp_DJ0_isLatin1_aae02 (k_aR k_aN k_vR))) (k_dRet (k_dCall kp_DJ1_charAt_3b067 (k_aI (k_aR k_aN (k_dTv k_vR)) k_vI))) (k_dRet (k_dCall kp_DJ2_charAt_3b067 (k_aI (k_aR k_aN (k_dTv k_vR)) k_vI))))
theorem kp_DJ0_charAt_5068e : KExp DJ0_charAt_5068e := by
  unfold DJ0_charAt_5068e
  exact (k_MN kp_BJ0_charAt_5068e)
theorem kp_LX9_isAt_1 : KStm LX9_isAt_1 := by
  unfold LX9_isAt_1
  exact (k_dLoop (k_dCI k_vI (k_dCallV kp_DJ0_length_8abf5 (k_aR k_aN k_vR))) (k_dIf (k_dCI (k_dCallV kp_DX9_byteAt (k_aI (k_aR k_aN k_vR) (k_d2 (k_dGI k_vR) k_vI))) (k_dCallV kp_DJ0_charAt_5068e (k_aI (k_aR k_aN k_vR) k_vI))) (k_dRet k_cI) k_dSkip) k_dInc)
theorem kp_BX9_isAt : KStm BX9_isAt := by
  unfold BX9_isAt
  exact (k_dSeq (k_dIf (k_dOr (k_dCI (k_dGI k_vR) k_cI) (k_dCI (k_d2 (k_dGI k_vR) (k_dGI k_vR)) (k_dCallV kp_DJ0_length_8abf5 (k_aR k_aN k_vR)))) (k_dRet k_cI) k_dSkip) (k_dSeq (k_dSeq (k_dSetI k_cI) kp_LX9_isAt_1) (k_dRet k_cI)))
theorem kp_DX9_isAt : KExp DX9_isAt := by
  unfold DX9_isAt
  exact (k_MZ kp_BX9_isAt)
theorem kp_BX6_fail : KStm BX6_fail := by
  unfold BX6_fail
  exact (k_dSeq (k_dIf (k_dCZ (k_dGI k_vR)) (k_dSeq (k_dP (k_fI (by decide)) k_vR k_vI) (k_dP (k_fI (by decide)) k_vR (k_dGI k_vR))) k_dSkip) (k_dRet k_cI))
theorem kp_DX6_fail : KExp DX6_fail := by
  unfold DX6_fail
  exact (k_MZ kp_BX6_fail)
theorem kp_BX6_readWord : KStm BX6_readWord := by
  unfold BX6_readWord
  exact (k_dSeq (k_dIf (k_dNot (k_dCZ (k_dCallV kp_DX9_isAt (k_aR (k_aR k_aN k_vR) k_vR)))) (k_dRet (k_dCallV kp_DX6_fail (k_aI (k_aR (k_aR k_aN k_vR) k_vR) k_cI))) k_dSkip) (k_dSeq (k_dDo (k_dCallV kp_DX9_next (k_aR k_aN k_vR))) (k_dRet k_cI)))
theorem kp_DX6_readWord : KExp DX6_readWord := by
  unfold DX6_readWord
  exact (k_MZ kp_BX6_readWord)
theorem kp_BX6_readNumber : KStm BX6_readNumber := by
  unfold BX6_readNumber
  exact (k_dSeq (k_dSetI (k_dGI k_vR)) (k_dSeq (k_dIf (k_dCI (k_dGI k_vR) k_cI) (k_dSeq (k_dDo (k_dCallV kp_DX6_fail (k_aI (k_aR (k_aR k_aN k_vR) k_vR) k_cI))) (k_dRet k_cI)) k_dSkip) (k_dSeq (k_dIf (k_dOr (k_dCI k_vI k_vI) (k_dCI k_vI k_vI)) (k_dSeq (k_dDo (k_dCallV kp_DX6_fail (k_aI (k_aR (k_aR k_aN k_vR) k_vR) k_cI))) (k_dRet k_cI)) k_dSkip) (k_dSeq (k_dDo (k_dCallV kp_DX9_next (k_aR k_aN k_vR))) (k_dRet k_vI)))))
theorem kp_DX6_readNumber : KExp DX6_readNumber := by
  unfold DX6_readNumber
  exact (k_M1 kp_BX6_readNumber)
theorem kp_BX6_readAmount : KStm BX6_readAmount := by
  unfold BX6_readAmount
  exact (k_dRet (k_dT (k_dCZ (k_dCallV kp_DX6_readWord (k_aR (k_aR (k_aR k_aN k_vR) k_vR) k_vR))) (k_dCallV kp_DX6_readNumber (k_aI (k_aI (k_aR (k_aR k_aN k_vR) k_vR) k_vI) k_vI)) k_cI))
theorem kp_DX6_readAmount : KExp DX6_readAmount := by
  unfold DX6_readAmount
  exact (k_M1 kp_BX6_readAmount)
theorem kp_BX6_readPort : KStm BX6_readPort := by
  unfold BX6_readPort
  exact (k_dSeq (k_dIf (k_dNot (k_dCZ (k_dCallV kp_DX6_readWord (k_aR (k_aR (k_aR k_aN k_vR) k_vR) k_cR)))) (k_dRet k_cI) k_dSkip) (k_dSeq (k_dP (k_fI (by decide)) k_vR (k_dCallV kp_DX6_readAmount (k_aI (k_aI (k_aR (k_aR (k_aR k_aN k_vR) k_vR) k_cR) k_cI) k_cI))) (k_dSeq (k_dIf (k_dCZ (k_dGI k_vR)) (k_dP (k_fI (by decide)) k_vR (k_dCallV kp_DX6_readAmount (k_aI (k_aI (k_aR (k_aR (k_aR k_aN k_vR) k_vR) k_cR) k_cI) k_cI))) k_dSkip) (k_dSeq (k_dIf (k_dCZ (k_dGI k_vR)) (k_dP (k_fI (by decide)) k_vR (k_dCallV kp_DX6_readAmount (k_aI (k_aI (k_aR (k_aR (k_aR k_aN k_vR) k_vR) k_cR) k_cI) k_cI))) k_dSkip) (k_dRet (k_dB (k_dCZ (k_dGI k_vR))))))))
theorem kp_DX6_readPort : KExp DX6_readPort := by
  unfold DX6_readPort
  exact (k_MZ kp_BX6_readPort)
theorem kp_BX6_hasRoom : KStm BX6_hasRoom := by
  unfold BX6_hasRoom
  exact (k_dRet (k_dB (k_dOr (k_dCI k_vI k_vI) (k_dCZ (k_dCallV kp_DX6_fail (k_aI (k_aR (k_aR k_aN k_vR) k_vR) k_cI))))))
theorem kp_DX6_hasRoom : KExp DX6_hasRoom := by
  unfold DX6_hasRoom
  exact (k_MZ kp_BX6_hasRoom)
theorem kp_BX6_readHouse : KStm BX6_readHouse := by
  unfold BX6_readHouse
  exact (k_dSeq (k_dDo (k_dCallV kp_DX9_next (k_aR k_aN k_vR))) (k_dSeq (k_dDo (k_dCall kp_DX11_put (k_aI (k_aI (k_aR k_aN (k_dGR k_vR)) (k_dGI k_vR)) (k_dCallV kp_DX6_readAmount (k_aI (k_aI (k_aR (k_aR (k_aR k_aN k_vR) k_vR) k_cR) k_cI) k_cI))))) (k_dSeq (k_dUF (by decide) k_vR k_cI) (k_dRet (k_dB (k_dCZ (k_dGI k_vR)))))))
theorem kp_DX6_readHouse : KExp DX6_readHouse := by
  unfold DX6_readHouse
  exact (k_MZ kp_BX6_readHouse)
theorem kp_BX6_readWay : KStm BX6_readWay := by
  unfold BX6_readWay
  exact (k_dSeq (k_dDo (k_dCallV kp_DX9_next (k_aR k_aN k_vR))) (k_dSeq (k_dSetI (k_dCallV kp_DX6_readNumber (k_aI (k_aI (k_aR (k_aR k_aN k_vR) k_vR) k_cI) (k_d2 (k_dGI k_vR) k_cI)))) (k_dSeq (k_dIf (k_dCZ (k_dGI k_vR)) (k_dRet k_cI) k_dSkip) (k_dSeq (k_dIf (k_dAnd (k_dCI (k_dGI k_vR) k_cI) (k_dCI (k_dGI k_vR) k_vI)) (k_dRet (k_dCallV kp_DX6_fail (k_aI (k_aR (k_aR k_aN k_vR) k_vR) k_cI))) k_dSkip) (k_dSeq (k_dDo (k_dCall kp_DX11_put (k_aI (k_aI (k_aR k_aN (k_dGR k_vR)) (k_dGI k_vR)) k_vI))) (k_dSeq (k_dDo (k_dCall kp_DX11_put (k_aI (k_aI (k_aR k_aN (k_dGR k_vR)) (k_dGI k_vR)) (k_dCallV kp_DX6_readNumber (k_aI (k_aI (k_aR (k_aR k_aN k_vR) k_vR) k_cI) (k_d2 (k_dGI k_vR) k_cI)))))) (k_dSeq (k_dUF (by decide) k_vR k_cI) (k_dRet (k_dB (k_dCZ (k_dGI k_vR)))))))))))
theorem kp_DX6_readWay : KExp DX6_readWay := by
  unfold DX6_readWay
  exact (k_MZ kp_BX6_readWay)
theorem kp_BX6_readCarrier : KStm BX6_readCarrier := by
  unfold BX6_readCarrier
  exact (k_dSeq (k_dDo (k_dCallV kp_DX9_next (k_aR k_aN k_vR))) (k_dSeq (k_dDo (k_dCall kp_DX11_put (k_aI (k_aI (k_aR k_aN (k_dGR k_vR)) (k_dGI k_vR)) (k_dCallV kp_DX6_readAmount (k_aI (k_aI (k_aR (k_aR (k_aR k_aN k_vR) k_vR) k_cR) k_cI) (k_d2 (k_dGI k_vR) k_cI)))))) (k_dSeq (k_dIf (k_dCZ (k_dGI k_vR)) (k_dRet k_cI) k_dSkip) (k_dSeq (k_dDo (k_dCall kp_DX11_put (k_aI (k_aI (k_aR k_aN (k_dGR k_vR)) (k_dGI k_vR)) (k_dCallV kp_DX6_readAmount (k_aI (k_aI (k_aR (k_aR (k_aR k_aN k_vR) k_vR) k_cR) k_cI) k_cI))))) (k_dSeq (k_dUF (by decide) k_vR k_cI) (k_dRet (k_dB (k_dCZ (k_dGI k_vR)))))))))
theorem kp_DX6_readCarrier : KExp DX6_readCarrier := by
  unfold DX6_readCarrier
  exact (k_MZ kp_BX6_readCarrier)
theorem kp_LX6_readSlate_1 : KStm LX6_readSlate_1 := by
  unfold LX6_readSlate_1
  exact (k_dLoop (k_dAnd (k_dAnd (k_dCZ (k_dGI k_vR)) (k_dCI k_vI k_cI)) (k_dOr (k_dCZ k_vI) (k_dCZ (k_dCallV kp_DX9_isAt (k_aR (k_aR k_aN k_vR) k_cR))))) (k_dSeq (k_dIf (k_dNot (k_dCZ (k_dCallV kp_DX6_hasRoom (k_aI (k_aI (k_aR (k_aR k_aN k_vR) k_vR) k_vI) k_cI)))) (k_dRet k_cI) k_dSkip) (k_dSeq (k_dDo (k_dCall kp_DX11_put (k_aI (k_aI (k_aR k_aN (k_dGR k_vR)) (k_d2 (k_d2 k_vI k_cI) k_vI)) (k_dCallV kp_DX6_readAmount (k_aI (k_aI (k_aR (k_aR (k_aR k_aN k_vR) k_vR) k_cR) k_cI) k_cI))))) k_dInc)) k_dSkip)
theorem kp_BX6_readSlate : KStm BX6_readSlate := by
  unfold BX6_readSlate
  exact (k_dSeq (k_dDo (k_dCallV kp_DX9_next (k_aR k_aN k_vR))) (k_dSeq (k_dSetI (k_dGI k_vR)) (k_dSeq (k_dDo (k_dCall kp_DX11_put (k_aI (k_aI (k_aR k_aN (k_dGR k_vR)) k_vI) (k_dCallV kp_DX6_readAmount (k_aI (k_aI (k_aR (k_aR (k_aR k_aN k_vR) k_vR) k_cR) k_cI) (k_d2 (k_dGI k_vR) k_cI)))))) (k_dSeq (k_dSetI k_cI) (k_dSeq kp_LX6_readSlate_1 (k_dSeq (k_dDo (k_dCall kp_DX11_put (k_aI (k_aI (k_aR k_aN (k_dGR k_vR)) k_vI) k_vI))) (k_dSeq (k_dUF (by decide) k_vR k_cI) (k_dRet (k_dB (k_dCZ (k_dGI k_vR)))))))))))
theorem kp_DX6_readSlate : KExp DX6_readSlate := by
  unfold DX6_readSlate
  exact (k_MZ kp_BX6_readSlate)
theorem kp_BX6_readCarry : KStm BX6_readCarry := by
  unfold BX6_readCarry
  exact (k_dSeq (k_dDo (k_dCallV kp_DX9_next (k_aR k_aN k_vR))) (k_dSeq (k_dSetI (k_dCallV kp_DX6_readNumber (k_aI (k_aI (k_aR (k_aR k_aN k_vR) k_vR) k_cI) (k_d2 (k_dGI k_vR) k_cI)))) (k_dSeq (k_dSetI (k_dT (k_dCZ (k_dGI k_vR)) (k_dCallV kp_DX6_readNumber (k_aI (k_aI (k_aR (k_aR k_aN k_vR) k_vR) k_cI) (k_d2 (k_dGI k_vR) k_cI))) k_cI)) (k_dSeq (k_dSetI (k_dT (k_dCZ (k_dGI k_vR)) (k_dCallV kp_DX6_readAmount (k_aI (k_aI (k_aR (k_aR (k_aR k_aN k_vR) k_vR) k_cR) k_cI) (k_d2 (k_dGI k_vR) k_cI))) k_cI)) (k_dSeq (k_dSetI (k_dT (k_dCZ (k_dGI k_vR)) (k_dCallV kp_DX6_readAmount (k_aI (k_aI (k_aR (k_aR (k_aR k_aN k_vR) k_vR) k_cR) k_cI) k_cI)) k_cI)) (k_dSeq (k_dIf (k_dCZ (k_dGI k_vR)) (k_dRet k_cI) k_dSkip) (k_dSeq (k_dDo (k_dCallV kp_DX1_add (k_aI (k_aI (k_aI (k_aI (k_aR k_aN (k_dGR k_vR)) k_vI) k_vI) k_vI) k_vI))) (k_dRet k_cI))))))))
theorem kp_DX6_readCarry : KExp DX6_readCarry := by
  unfold DX6_readCarry
  exact (k_MZ kp_BX6_readCarry)
theorem kp_BX6_readLine : KStm BX6_readLine := by
  unfold BX6_readLine
  exact (k_dSeq (k_dIf (k_dCZ (k_dGI k_vR)) (k_dRet (k_dCallV kp_DX6_readPort (k_aR (k_aR (k_aR k_aN k_vR) k_vR) k_vR))) k_dSkip) (k_dSeq (k_dIf (k_dCZ (k_dCallV kp_DX9_isAt (k_aR (k_aR k_aN k_vR) k_cR))) (k_dRet (k_dB (k_dAnd (k_dCZ (k_dCallV kp_DX6_hasRoom (k_aI (k_aI (k_aR (k_aR k_aN k_vR) k_vR) (k_dGI k_vR)) k_cI))) (k_dCZ (k_dCallV kp_DX6_readHouse (k_aR (k_aR (k_aR k_aN k_vR) k_vR) k_vR)))))) k_dSkip) (k_dSeq (k_dIf (k_dCZ (k_dCallV kp_DX9_isAt (k_aR (k_aR k_aN k_vR) k_cR))) (k_dRet (k_dB (k_dAnd (k_dCZ (k_dCallV kp_DX6_hasRoom (k_aI (k_aI (k_aR (k_aR k_aN k_vR) k_vR) (k_dGI k_vR)) k_cI))) (k_dCZ (k_dCallV kp_DX6_readWay (k_aR (k_aR (k_aR k_aN k_vR) k_vR) k_vR)))))) k_dSkip) (k_dSeq (k_dIf (k_dCZ (k_dCallV kp_DX9_isAt (k_aR (k_aR k_aN k_vR) k_cR))) (k_dRet (k_dB (k_dAnd (k_dCZ (k_dCallV kp_DX6_hasRoom (k_aI (k_aI (k_aR (k_aR k_aN k_vR) k_vR) (k_dGI k_vR)) k_cI))) (k_dCZ (k_dCallV kp_DX6_readCarrier (k_aR (k_aR (k_aR k_aN k_vR) k_vR) k_vR)))))) k_dSkip) (k_dSeq (k_dIf (k_dCZ (k_dCallV kp_DX9_isAt (k_aR (k_aR k_aN k_vR) k_cR))) (k_dRet (k_dB (k_dAnd (k_dCZ (k_dCallV kp_DX6_hasRoom (k_aI (k_aI (k_aR (k_aR k_aN k_vR) k_vR) (k_dGI k_vR)) k_cI))) (k_dCZ (k_dCallV kp_DX6_readSlate (k_aR (k_aR (k_aR k_aN k_vR) k_vR) k_vR)))))) k_dSkip) (k_dSeq (k_dIf (k_dCZ (k_dCallV kp_DX9_isAt (k_aR (k_aR k_aN k_vR) k_cR))) (k_dRet (k_dB (k_dAnd (k_dCZ (k_dCallV kp_DX6_hasRoom (k_aI (k_aI (k_aR (k_aR k_aN k_vR) k_vR) (k_dGI (k_dGR k_vR))) k_cI))) (k_dCZ (k_dCallV kp_DX6_readCarry (k_aR (k_aR (k_aR k_aN k_vR) k_vR) k_vR)))))) k_dSkip) (k_dRet (k_dCallV kp_DX6_fail (k_aI (k_aR (k_aR k_aN k_vR) k_vR) k_cI)))))))))
theorem kp_DX6_readLine : KExp DX6_readLine := by
  unfold DX6_readLine
  exact (k_MZ kp_BX6_readLine)
theorem kp_BX6_readSign : KStm BX6_readSign := by
  unfold BX6_readSign
  exact (k_dSeq (k_dIf (k_dCI (k_dGI k_vR) k_cI) (k_dRet (k_dCallV kp_DX6_fail (k_aI (k_aR (k_aR k_aN k_vR) k_vR) k_cI))) k_dSkip) (k_dSeq (k_dDo (k_dCallV kp_DX9_next (k_aR k_aN k_vR))) (k_dRet k_cI)))
theorem kp_DX6_readSign : KExp DX6_readSign := by
  unfold DX6_readSign
  exact (k_MZ kp_BX6_readSign)
theorem kp_LX6_read_1 : KStm LX6_read_1 := by
  unfold LX6_read_1
  exact (k_dLoop (k_dAnd (k_dCI k_vI k_cI) (k_dCZ (k_dGI k_vR))) (k_dSeq (k_dIf (k_dOr (k_dNot (k_dCZ (k_dCallV kp_DX6_readLine (k_aR (k_aR (k_aR k_aN k_vR) k_vR) k_vR)))) (k_dNot (k_dCZ (k_dCallV kp_DX6_readSign (k_aR (k_aR k_aN k_vR) k_vR))))) (k_dRet k_cI) k_dSkip) (k_dUF (by decide) k_vR k_cI)) k_dInc)
theorem kp_BX6_read : KStm BX6_read := by
  unfold BX6_read
  exact (k_dSeq (k_dP (k_fI (by decide)) k_vR k_cI) (k_dSeq (k_dP (k_fI (by decide)) k_vR k_cI) (k_dSeq (k_dDo (k_dCallV kp_DX5_clear (k_aR k_aN k_vR))) (k_dSeq (k_dDo (k_dCallV kp_DX9_rewind (k_aR k_aN k_vR))) (k_dSeq (k_dDo (k_dCallV kp_DX9_next (k_aR k_aN k_vR))) (k_dSeq (k_dSeq (k_dSetI k_cI) kp_LX6_read_1) (k_dSeq (k_dP (k_fI (by decide)) (k_dGR k_vR) (k_dGI (k_dGR k_vR))) (k_dRet k_cI))))))))
theorem kp_DX6_read : KExp DX6_read := by
  unfold DX6_read
  exact (k_MZ kp_BX6_read)
theorem kp_BX11_port : KStm BX11_port := by
  unfold BX11_port
  exact (k_dSeq (k_dSetI (k_dCallV kp_DX6_read (k_aR (k_aR (k_aR k_aN (k_dGR k_vR)) (k_dGR k_vR)) (k_dGR k_vR)))) (k_dSeq (k_dP (k_fI (by decide)) (k_dGR k_vR) k_cI) (k_dSeq (k_dIf (k_dNot (k_dCZ k_vI)) (k_dRet k_cI) k_dSkip) (k_dSeq (k_dDo (k_dCallV kp_DX5_copy (k_aR (k_aR k_aN (k_dGR k_vR)) (k_dGR k_vR)))) (k_dSeq (k_dDo (k_dCallV kp_DX11_makeStale (k_aR k_aN k_vR))) (k_dRet (k_dGI (k_dGR k_vR))))))))
theorem kp_DX11_port : KExp DX11_port := by
  unfold DX11_port
  exact (k_M1 kp_BX11_port)
theorem kp_LX11_porter_1 : KStm LX11_porter_1 := by
  unfold LX11_porter_1
  exact (k_dLoop (k_dCI k_vI (k_dGI (k_dGR k_vR))) (k_dSeq (k_dDo (k_dCallV kp_DX0_search (k_aI (k_aI (k_aR (k_aR k_aN (k_dGR k_vR)) (k_dGR k_vR)) k_vI) (k_dCall kp_DX11_cell (k_aI (k_aR k_aN (k_dGR (k_dGR k_vR))) k_vI))))) (k_dSeq (k_dSetI (k_dCall kp_DX11_cell (k_aI (k_aR k_aN (k_dGR (k_dGR k_vR))) k_vI))) (k_dIf (k_dAnd (k_dCI k_vI k_cI) (k_dOr (k_dCI k_vI k_cI) (k_dCI k_vI k_vI))) (k_dSeq (k_dSetI k_vI) (k_dSetI k_vI)) k_dSkip))) k_dInc)
theorem kp_BX11_porter : KStm BX11_porter := by
  unfold BX11_porter
  exact (k_dSeq (k_dIf (k_dOr (k_dNot (k_dCZ (k_dCallV kp_DX5_isSlate (k_aI (k_aR k_aN (k_dGR k_vR)) k_vI)))) (k_dNot (k_dCZ (k_dCallV kp_DX5_isHouse (k_aI (k_aR k_aN (k_dGR k_vR)) k_vI))))) (k_dRet k_cI) k_dSkip) (k_dSeq (k_dSetI k_cI) (k_dSeq (k_dSetI k_cI) (k_dSeq (k_dSeq (k_dSetI k_cI) kp_LX11_porter_1) (k_dRet k_vI)))))
theorem kp_DX11_porter : KExp DX11_porter := by
  unfold DX11_porter
  exact (k_M1 kp_BX11_porter)
theorem kp_BX11_rate : KStm BX11_rate := by
  unfold BX11_rate
  exact (k_dSeq (k_dIf (k_dOr (k_dOr (k_dNot (k_dCZ (k_dCallV kp_DX5_isCarrier (k_aI (k_aR k_aN (k_dGR k_vR)) k_vI)))) (k_dCZ k_vI)) (k_dCI k_vI k_cI)) (k_dRet k_cI) k_dSkip) (k_dSeq (k_dIf (k_dCZ (k_dGI (k_dGR (k_dGR k_vR)))) (k_dRet k_cI) k_dSkip) (k_dSeq (k_dSetI (k_dCall kp_DX11_cell (k_aI (k_aR k_aN (k_dGR (k_dGR k_vR))) k_vI))) (k_dSeq (k_dDo (k_dCall kp_DX11_put (k_aI (k_aI (k_aR k_aN (k_dGR (k_dGR k_vR))) k_vI) k_vI))) (k_dSeq (k_dDo (k_dCallV kp_DX11_makeStale (k_aR k_aN k_vR))) (k_dRet k_vI))))))
theorem kp_DX11_rate : KExp DX11_rate := by
  unfold DX11_rate
  exact (k_M1 kp_BX11_rate)
theorem kp_LX11_rests_1 : KStm LX11_rests_1 := by
  unfold LX11_rests_1
  exact (k_dLoop (k_dCI k_vI k_cI) (k_dSeq (k_dDo (k_dCallV kp_DX11_shutBy (k_aI (k_aI (k_aI (k_aI (k_aR k_aN k_vR) k_vI) (k_d2 k_vI k_cI)) k_vI) (k_d2 k_vI k_cI)))) (k_dSeq (k_dDo (k_dCall kp_DX11_put (k_aI (k_aI (k_aR k_aN (k_dGR k_vR)) k_vI) (k_dCallV kp_DX11_gainOf (k_aI (k_aI (k_aR k_aN k_vR) k_vI) k_vI))))) (k_dDo (k_dCall kp_DX11_put (k_aI (k_aI (k_aR k_aN (k_dGR k_vR)) k_vI) (k_dCallV kp_DX11_gainOf (k_aI (k_aI (k_aR k_aN k_vR) k_vI) k_vI))))))) k_dInc)
theorem kp_LX11_rests_2 : KStm LX11_rests_2 := by
  unfold LX11_rests_2
  exact (k_dLoop (k_dCI k_vI k_cI) (k_dSeq (k_dSetI (k_dB (k_dCI (k_dCall kp_DX11_cell (k_aI (k_aR k_aN (k_dGR k_vR)) k_vI)) (k_dCall kp_DX11_cell (k_aI (k_aR k_aN (k_dGR k_vR)) (k_d2 k_vI k_cI)))))) (k_dSeq (k_dSetI (k_dB (k_dCI (k_dCall kp_DX11_cell (k_aI (k_aR k_aN (k_dGR k_vR)) k_vI)) (k_dCall kp_DX11_cell (k_aI (k_aR k_aN (k_dGR k_vR)) (k_d2 k_vI k_cI)))))) (k_dIf (k_dAnd (k_dCZ k_vI) (k_dCZ k_vI)) (k_dSetI (k_d2 k_vI (k_d2 k_cI k_vI))) k_dSkip))) k_dInc)
theorem kp_BX11_rests : KStm BX11_rests := by
  unfold BX11_rests
  exact (k_dSeq (k_dIf (k_dNot (k_dCZ (k_dCallV kp_DX11_isGame (k_aI (k_aI (k_aI (k_aR k_aN k_vR) k_vI) k_vI) k_vI)))) (k_dRet k_cI) k_dSkip) (k_dSeq (k_dSeq (k_dSetI k_cI) kp_LX11_rests_1) (k_dSeq (k_dSetI k_cI) (k_dSeq (k_dSeq (k_dSetI k_cI) kp_LX11_rests_2) (k_dRet k_vI)))))
theorem kp_DX11_rests : KExp DX11_rests := by
  unfold DX11_rests
  exact (k_M1 kp_BX11_rests)
theorem kp_BX8_cut : KStm BX8_cut := by
  unfold BX8_cut
  exact (k_dSw k_vI (k_cons (k_dRet (k_d1 (k_d1 (k_d1 k_vL)))) (k_cons (k_dRet (k_d1 (k_d1 (k_d1 k_vL)))) (k_cons (k_dRet (k_d1 (k_d1 k_vL))) k_nil))) (k_dRet k_vL))
theorem kp_DX8_cut : KExp DX8_cut := by
  unfold DX8_cut
  exact (k_M1 kp_BX8_cut)
theorem kp_BX8_set : KStm BX8_set := by
  unfold BX8_set
  exact (k_dSeq (k_dIf (k_dNot (k_dCZ (k_dCallV kp_DX8_isSlot (k_aI (k_aR k_aN k_vR) k_vI)))) (k_dRet k_cI) k_dSkip) (k_dSeq (k_dIf (k_dNot (k_dCZ (k_dCallV kp_DX8_hasRow (k_aI (k_aR k_aN k_vR) k_vI)))) (k_dRet k_cI) k_dSkip) (k_dSeq (k_dSetI (k_d2 (k_d2 k_vI k_cI) k_vI)) (k_dSeq (k_dIf (k_dOr (k_dOr (k_dOr (k_dCZ k_vI) (k_dCI k_vI (k_dCallV kp_DX8_sizeOf (k_aI (k_aR k_aN k_vR) k_vI)))) (k_dCZ k_vI)) (k_dCI k_vI (k_dLen (k_dGR k_vR)))) (k_dRet k_cI) k_dSkip) (k_dSeq (k_d3 k_stL (k_dGR k_vR) k_vI (k_dCall kp_DX8_cut (k_aI (k_aL k_aN k_vL) (k_d2 (k_dCall kp_DX11_cell (k_aI (k_aR k_aN (k_dGR k_vR)) k_vI)) k_cI)))) (k_dRet k_cI))))))
theorem kp_DX8_set : KExp DX8_set := by
  unfold DX8_set
  exact (k_M1 kp_BX8_set)
theorem kp_LX8_make_1 : KStm LX8_make_1 := by
  unfold LX8_make_1
  exact (k_dLoop (k_dCI k_vI k_vI) (k_dDo (k_dCallV kp_DX8_set (k_aL (k_aI (k_aI (k_aR k_aN k_vR) k_vI) k_vI) k_cL))) k_dInc)
theorem kp_BX8_make : KStm BX8_make := by
  unfold BX8_make
  exact (k_dSeq (k_dIf (k_dOr (k_dOr (k_dOr (k_dNot (k_dCZ (k_dCallV kp_DX8_isSlot (k_aI (k_aR k_aN k_vR) k_vI)))) (k_dCZ k_vI)) (k_dCI k_vI k_cI)) (k_dCI k_vI k_cI)) (k_dRet k_cI) k_dSkip) (k_dSeq (k_dIf (k_dCZ k_vI) (k_dRet k_cI) k_dSkip) (k_dSeq (k_dDo (k_dCall kp_DX11_put (k_aI (k_aI (k_aR k_aN (k_dGR k_vR)) k_vI) (k_d2 k_vI k_cI)))) (k_dSeq (k_dDo (k_dCall kp_DX11_put (k_aI (k_aI (k_aR k_aN (k_dGR k_vR)) k_vI) k_vI))) (k_dSeq (k_dSeq (k_dSetI k_cI) kp_LX8_make_1) (k_dRet k_cI))))))
theorem kp_DX8_make : KExp DX8_make := by
  unfold DX8_make
  exact (k_M1 kp_BX8_make)
theorem kp_BX11_row : KStm BX11_row := by
  unfold BX11_row
  exact (k_dRet (k_dCallV kp_DX8_make (k_aI (k_aI (k_aI (k_aR k_aN (k_dGR k_vR)) k_vI) k_vI) k_vI)))
theorem kp_DX11_row : KExp DX11_row := by
  unfold DX11_row
  exact (k_M1 kp_BX11_row)
theorem kp_BX5_isWord : KStm BX5_isWord := by
  unfold BX5_isWord
  exact (k_dRet (k_dB (k_dAnd (k_dCZ k_vI) (k_dCI k_vI (k_dCall kp_DX11_cell (k_aI (k_aR k_aN (k_dGR k_vR)) k_vI))))))
theorem kp_DX5_isWord : KExp DX5_isWord := by
  unfold DX5_isWord
  exact (k_MZ kp_BX5_isWord)
theorem kp_BX11_rub : KStm BX11_rub := by
  unfold BX11_rub
  exact (k_dSeq (k_dIf (k_dOr (k_dNot (k_dCZ (k_dCallV kp_DX5_isSlate (k_aI (k_aR k_aN (k_dGR k_vR)) k_vI)))) (k_dNot (k_dCZ (k_dCallV kp_DX5_isWord (k_aI (k_aI (k_aR k_aN (k_dGR k_vR)) k_vI) k_vI))))) (k_dRet k_cI) k_dSkip) (k_dSeq (k_dIf (k_dCI (k_dGI (k_dGR (k_dGR k_vR))) k_cI) (k_dRet k_cI) k_dSkip) (k_dSeq (k_dSetI (k_dCall kp_DX11_hasBit (k_aI (k_aI k_aN (k_dCallV kp_DX5_leftAtFirst (k_aI (k_aR k_aN (k_dGR k_vR)) k_vI))) k_vI))) (k_dSeq (k_dDo (k_dCallV kp_DX1_addAct (k_aI (k_aI (k_aR k_aN (k_dGR (k_dGR k_vR))) k_vI) k_vI))) (k_dSeq (k_dDo (k_dCallV kp_DX11_makeStale (k_aR k_aN k_vR))) (k_dRet (k_dT (k_dCZ k_vI) k_cI k_cI)))))))
theorem kp_DX11_rub : KExp DX11_rub := by
  unfold DX11_rub
  exact (k_M1 kp_BX11_rub)
theorem kp_BX11_rubbed : KStm BX11_rubbed := by
  unfold BX11_rubbed
  exact (k_dSeq (k_dIf (k_dNot (k_dCZ (k_dCallV kp_DX5_isSlate (k_aI (k_aR k_aN (k_dGR k_vR)) k_vI)))) (k_dRet k_cI) k_dSkip) (k_dRet (k_dCall kp_DJ6_bitCount_0f7a4 (k_aI k_aN (k_d2 (k_dCallV kp_DX5_allWords (k_aI (k_aR k_aN (k_dGR k_vR)) k_vI)) (k_d2 (k_dCallV kp_DX3_leftOn (k_aI (k_aI (k_aR k_aN (k_dCallV kp_DX11_today (k_aR k_aN k_vR))) k_vI) (k_dGI (k_dGR k_vR)))) k_cI))))))
theorem kp_DX11_rubbed : KExp DX11_rubbed := by
  unfold DX11_rubbed
  exact (k_M1 kp_BX11_rubbed)
theorem kp_BX11_saves : KStm BX11_saves := by
  unfold BX11_saves
  exact (k_dSeq (k_dIf (k_dOr (k_dNot (k_dCZ (k_dCallV kp_DX11_areAlone (k_aI (k_aI (k_aR k_aN k_vR) k_vI) k_vI)))) (k_dNot (k_dCZ (k_dCallV kp_DX5_isHouse (k_aI (k_aR k_aN (k_dGR k_vR)) k_vI))))) (k_dRet k_cI) k_dSkip) (k_dSeq (k_dDo (k_dCallV kp_DX0_search (k_aI (k_aI (k_aR (k_aR k_aN (k_dGR k_vR)) (k_dGR k_vR)) k_vI) (k_dCall kp_DX11_cell (k_aI (k_aR k_aN (k_dGR (k_dGR k_vR))) k_vI))))) (k_dRet (k_dCall kp_DX11_cell (k_aI (k_aR k_aN (k_dGR (k_dGR k_vR))) k_vI)))))
theorem kp_DX11_saves : KExp DX11_saves := by
  unfold DX11_saves
  exact (k_M1 kp_BX11_saves)
theorem kp_LX0_housesFor_1 : KStm LX0_housesFor_1 := by
  unfold LX0_housesFor_1
  exact (k_dLoop (k_dCI k_vI k_cI) (k_dIf (k_dAnd (k_dCI (k_dCall kp_DX11_cell (k_aI (k_aR k_aN (k_dGR k_vR)) k_vI)) k_cI) (k_dCI (k_dCall kp_DX11_cell (k_aI (k_aR k_aN (k_dGR k_vR)) k_vI)) k_vI)) k_dInc k_dSkip) k_dInc)
theorem kp_BX0_housesFor : KStm BX0_housesFor := by
  unfold BX0_housesFor
  exact (k_dSeq (k_dSetI k_cI) (k_dSeq (k_dSeq (k_dSetI k_cI) kp_LX0_housesFor_1) (k_dRet k_vI)))
theorem kp_DX0_housesFor : KExp DX0_housesFor := by
  unfold DX0_housesFor
  exact (k_M1 kp_BX0_housesFor)
theorem kp_BX11_housesOfCart : KStm BX11_housesOfCart := by
  unfold BX11_housesOfCart
  exact (k_dRet (k_dT (k_dCZ k_vI) k_cI (k_dCallV kp_DX0_housesFor (k_aI (k_aR k_aN (k_dGR k_vR)) (k_dCallV kp_DX5_strongTogether (k_aI (k_aR k_aN (k_dGR k_vR)) k_vI))))))
theorem kp_DX11_housesOfCart : KExp DX11_housesOfCart := by
  unfold DX11_housesOfCart
  exact (k_M1 kp_BX11_housesOfCart)
theorem kp_BX11_ordersWith : KStm BX11_ordersWith := by
  unfold BX11_ordersWith
  exact (k_dRet (k_d2 (k_dCall kp_DX11_cell (k_aI (k_aR k_aN k_cR) k_vI)) (k_dCall kp_DX11_cell (k_aI (k_aR k_aN k_cR) (k_d2 (k_d2 (k_dGI (k_dGR k_vR)) k_vI) k_cI)))))
theorem kp_DX11_ordersWith : KExp DX11_ordersWith := by
  unfold DX11_ordersWith
  exact (k_M1 kp_BX11_ordersWith)
theorem kp_LX11_share_1 : KStm LX11_share_1 := by
  unfold LX11_share_1
  exact (k_dLoop (k_dCI k_vI (k_dCallV kp_DX5_allCarriers (k_aR k_aN (k_dGR k_vR)))) (k_dIf (k_dNot (k_dCZ (k_dCall kp_DX11_hasBit (k_aI (k_aI k_aN k_vI) k_vI)))) (k_dSeq (k_dSetI (k_d2 (k_dCallV kp_DX11_housesOfCart (k_aI (k_aR k_aN k_vR) (k_d2 k_vI (k_d2 k_cI k_vI)))) (k_dCallV kp_DX11_housesOfCart (k_aI (k_aR k_aN k_vR) k_vI)))) (k_dSetL (k_d2 k_vL (k_d2 (k_d1 k_vI) (k_d1 (k_dCallV kp_DX11_ordersWith (k_aI (k_aR k_aN k_vR) (k_dCall kp_DJ6_bitCount_0f7a4 (k_aI k_aN k_vI))))))))) k_dSkip) k_dInc)
theorem kp_BX11_share : KStm BX11_share := by
  unfold BX11_share
  exact (k_dSeq (k_dIf (k_dOr (k_dNot (k_dCZ (k_dCallV kp_DX11_areAlone (k_aI (k_aI (k_aR k_aN k_vR) k_vI) k_vI)))) (k_dNot (k_dCZ (k_dCall kp_DX11_isChoice (k_aI k_aN k_vI))))) (k_dRet k_cI) k_dSkip) (k_dSeq (k_dDo (k_dCallV kp_DX0_findNeeds (k_aI (k_aR (k_aR k_aN (k_dGR k_vR)) (k_dGR k_vR)) k_vI))) (k_dSeq (k_dSetL k_cL) (k_dSeq (k_dSeq (k_dSetI k_cI) kp_LX11_share_1) (k_dRet (k_d1 (k_dCall kp_DX11_inLowestTerms (k_aI (k_aL (k_aL k_aN k_vL) (k_d1 (k_dCall kp_DX11_cell (k_aI (k_aR k_aN k_cR) (k_dGI (k_dGR k_vR)))))) k_vI))))))))
theorem kp_DX11_share : KExp DX11_share := by
  unfold DX11_share
  exact (k_M1 kp_BX11_share)
theorem kp_LX0_mostHearers_1 : KStm LX0_mostHearers_1 := by
  unfold LX0_mostHearers_1
  exact (k_dLoop (k_dCI k_vI k_vI) (k_dSetI (k_d2 k_vI (k_dCall kp_DX11_cell (k_aI (k_aR k_aN (k_dGR k_vR)) k_vI)))) k_dInc)
theorem kp_BX0_mostHearers : KStm BX0_mostHearers := by
  unfold BX0_mostHearers
  exact (k_dSeq (k_dSetI (k_dCall kp_DJ6_bitCount_0f7a4 (k_aI k_aN (k_dCallV kp_DX5_leftAtFirst (k_aI (k_aR k_aN k_vR) k_vI))))) (k_dSeq (k_dIf (k_dCZ k_vI) (k_dRet k_cI) k_dSkip) (k_dSeq (k_dSetI k_cI) (k_dSeq (k_dSeq (k_dSetI k_cI) kp_LX0_mostHearers_1) (k_dRet (k_dT (k_dCZ (k_dGI k_vR)) k_vI (k_d2 k_vI (k_d2 k_vI k_cI))))))))
theorem kp_DX0_mostHearers : KExp DX0_mostHearers := by
  unfold DX0_mostHearers
  exact (k_M1 kp_BX0_mostHearers)
theorem kp_BX11_tells : KStm BX11_tells := by
  unfold BX11_tells
  exact (k_dSeq (k_dIf (k_dOr (k_dOr (k_dNot (k_dCZ (k_dCallV kp_DX11_areAlone (k_aI (k_aI (k_aR k_aN k_vR) k_vI) k_vI)))) (k_dCZ k_vI)) (k_dCI k_vI k_cI)) (k_dRet k_cI) k_dSkip) (k_dSeq (k_dDo (k_dCallV kp_DX0_search (k_aI (k_aI (k_aR (k_aR k_aN (k_dGR k_vR)) (k_dGR k_vR)) k_vI) (k_dCall kp_DX11_cell (k_aI (k_aR k_aN (k_dGR (k_dGR k_vR))) k_vI))))) (k_dRet (k_dCallV kp_DX0_mostHearers (k_aI (k_aI (k_aR (k_aR k_aN (k_dGR k_vR)) (k_dGR k_vR)) k_vI) k_vI)))))
theorem kp_DX11_tells : KExp DX11_tells := by
  unfold DX11_tells
  exact (k_M1 kp_BX11_tells)
theorem kp_LX11_toil_1 : KStm LX11_toil_1 := by
  unfold LX11_toil_1
  exact (k_dLoop (k_dCI k_vI (k_dGI (k_dGR (k_dGR k_vR)))) (k_dIf (k_dAnd (k_dCI (k_dCall kp_DX11_cell (k_aI (k_aR k_aN (k_dGR (k_dGR (k_dGR k_vR)))) k_vI)) k_vI) (k_dCZ (k_dCallV kp_DX3_reasonOf (k_aI (k_aR k_aN (k_dCallV kp_DX11_today (k_aR k_aN k_vR))) k_vI)))) (k_dSetI (k_d2 k_vI (k_dCallV kp_DX3_loadOf (k_aI (k_aR k_aN (k_dCallV kp_DX11_today (k_aR k_aN k_vR))) k_vI)))) k_dSkip) k_dInc)
theorem kp_BX11_toil : KStm BX11_toil := by
  unfold BX11_toil
  exact (k_dSeq (k_dIf (k_dNot (k_dCZ (k_dCallV kp_DX5_isCarrier (k_aI (k_aR k_aN (k_dGR k_vR)) k_vI)))) (k_dRet k_cI) k_dSkip) (k_dSeq (k_dSetI k_cI) (k_dSeq (k_dSeq (k_dSetI k_cI) kp_LX11_toil_1) (k_dRet k_vI))))
theorem kp_DX11_toil : KExp DX11_toil := by
  unfold DX11_toil
  exact (k_M1 kp_BX11_toil)
theorem kp_BX11_trips : KStm BX11_trips := by
  unfold BX11_trips
  exact (k_dRet (k_dT (k_dCZ (k_dCallV kp_DX5_isCarrier (k_aI (k_aR k_aN (k_dGR k_vR)) k_vI))) (k_dCallV kp_DX3_countDone (k_aI (k_aI (k_aR (k_aR k_aN (k_dCallV kp_DX11_today (k_aR k_aN k_vR))) (k_dGR (k_dGR (k_dGR k_vR)))) k_vI) (k_dGI (k_dGR (k_dGR k_vR))))) k_cI))
theorem kp_DX11_trips : KExp DX11_trips := by
  unfold DX11_trips
  exact (k_M1 kp_BX11_trips)
theorem kp_BX1_takeBack : KStm BX1_takeBack := by
  unfold BX1_takeBack
  exact (k_dSeq (k_dIf (k_dCZ (k_dGI k_vR)) k_dRet0 k_dSkip) (k_dSeq (k_dUF (by decide) k_vR k_cI) (k_dSeq (k_dIf (k_dAnd (k_dCI (k_dCall kp_DX11_cell (k_aI (k_aR k_aN (k_dGR k_vR)) (k_dGI k_vR))) k_cI) (k_dCI (k_dGI k_vR) (k_dGI k_vR))) (k_dUF (by decide) k_vR k_cI) k_dSkip) k_dRet0)))
theorem kp_DX1_takeBack : KExp DX1_takeBack := by
  unfold DX1_takeBack
  exact (k_M1 kp_BX1_takeBack)
theorem kp_BX11_undo : KStm BX11_undo := by
  unfold BX11_undo
  exact (k_dSeq (k_dIf (k_dNot (k_dCZ (k_dCallV kp_DX5_isTold (k_aR k_aN (k_dGR k_vR))))) (k_dRet k_cI) k_dSkip) (k_dSeq (k_dIf (k_dCZ (k_dGI (k_dGR (k_dGR k_vR)))) (k_dRet k_cI) k_dSkip) (k_dSeq (k_dDo (k_dCallV kp_DX1_takeBack (k_aR k_aN (k_dGR (k_dGR k_vR))))) (k_dSeq (k_dDo (k_dCallV kp_DX11_makeStale (k_aR k_aN k_vR))) (k_dRet (k_dGI (k_dGR (k_dGR k_vR))))))))
theorem kp_DX11_undo : KExp DX11_undo := by
  unfold DX11_undo
  exact (k_M1 kp_BX11_undo)
theorem kp_BX11_weight : KStm BX11_weight := by
  unfold BX11_weight
  exact (k_dRet (k_dT (k_dCZ (k_dCallV kp_DX11_isSlateOn (k_aI (k_aI (k_aR k_aN k_vR) k_vI) k_vI))) (k_dCallV kp_DX5_weightOf (k_aI (k_aI (k_aR k_aN (k_dGR k_vR)) k_vI) (k_dCallV kp_DX3_leftOn (k_aI (k_aI (k_aR k_aN (k_dCallV kp_DX11_today (k_aR k_aN k_vR))) k_vI) k_vI)))) k_cI))
theorem kp_DX11_weight : KExp DX11_weight := by
  unfold DX11_weight
  exact (k_M1 kp_BX11_weight)
theorem kp_LX11_when_1 : KStm LX11_when_1 := by
  unfold LX11_when_1
  exact (k_dLoop (k_dCI k_vI (k_dGI (k_dGR k_vR))) (k_dIf (k_dCZ (k_dCallV kp_DX3_knownOn (k_aI (k_aI (k_aI (k_aR k_aN (k_dCallV kp_DX11_today (k_aR k_aN k_vR))) k_vI) k_vI) k_vI))) (k_dRet k_vI) k_dSkip) k_dInc)
theorem kp_BX11_when : KStm BX11_when := by
  unfold BX11_when
  exact (k_dSeq (k_dIf (k_dOr (k_dNot (k_dCZ (k_dCallV kp_DX5_isHouse (k_aI (k_aR k_aN (k_dGR k_vR)) k_vI)))) (k_dNot (k_dCZ (k_dCallV kp_DX5_isSlate (k_aI (k_aR k_aN (k_dGR k_vR)) k_vI))))) (k_dRet k_cI) k_dSkip) (k_dSeq (k_dSeq (k_dSetI k_cI) kp_LX11_when_1) (k_dRet k_cI)))
theorem kp_DX11_when : KExp DX11_when := by
  unfold DX11_when
  exact (k_M1 kp_BX11_when)
theorem kp_BX11_why : KStm BX11_why := by
  unfold BX11_why
  exact (k_dRet (k_dT (k_dCZ (k_dCallV kp_DX5_isCarry (k_aI (k_aR k_aN (k_dGR k_vR)) k_vI))) (k_dCallV kp_DX3_reasonOf (k_aI (k_aR k_aN (k_dCallV kp_DX11_today (k_aR k_aN k_vR))) k_vI)) k_cI))
theorem kp_DX11_why : KExp DX11_why := by
  unfold DX11_why
  exact (k_M1 kp_BX11_why)
theorem kp_BX11_word : KStm BX11_word := by
  unfold BX11_word
  exact (k_dSeq (k_dIf (k_dNot (k_dCZ (k_dCallV kp_DX5_isSlate (k_aI (k_aR k_aN (k_dGR k_vR)) k_vI)))) (k_dRet k_cI) k_dSkip) (k_dRet (k_dT (k_dCZ (k_dCallV kp_DX5_isWord (k_aI (k_aI (k_aR k_aN (k_dGR k_vR)) k_vI) k_vI))) (k_dCall kp_DX11_cell (k_aI (k_aR k_aN (k_dGR (k_dGR k_vR))) (k_d2 (k_d2 k_vI k_cI) k_vI))) k_cI)))
theorem kp_DX11_word : KExp DX11_word := by
  unfold DX11_word
  exact (k_M1 kp_BX11_word)
theorem kp_BX11_write : KStm BX11_write := by
  unfold BX11_write
  exact (k_dRet (k_dCallV kp_DX8_set (k_aL (k_aI (k_aI (k_aR k_aN (k_dGR k_vR)) k_vI) k_vI) k_vL)))
theorem kp_DX11_write : KExp DX11_write := by
  unfold DX11_write
  exact (k_M1 kp_BX11_write)
