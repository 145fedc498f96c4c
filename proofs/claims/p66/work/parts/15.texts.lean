/-! texts, and what looks at an index -/
def dTv (A : Ex Nat) : Ex Nat := fun f h => ob (A f h) fun a => if (hk a.2 a.1).1 = 19 then some (a.1 + 14, a.2) else none
def dTc (A : Ex Nat) : Ex Int32 := fun f h => ob (A f h) fun a => if (hk a.2 a.1).1 = 19 then some (0, a.2) else none
def dNone {α : Type} : Sm α := fun _ _ => none
def MN (ty : FieldType) (cn : Fr → Fr) (S : Sm Int32) : Fr → St → Option (Int32 × St) := fun g h => ob (S (cn g) h) fun q => Sum.elim (fun _ => none) (fun v => if vp_nar ty v = v then some (v, q.2.2) else none) q.1
theorem mN_D {ty : FieldType} {cn : Fr → Fr} {S : Sm Int32} {g : Fr} {h h' : St} {v : Int32} (q : MN ty cn S g h = some (v, h')) : ∃ f', S (cn g) h = some (.inr v, f', h') ∧ vp_nar ty v = v := by
  obtain ⟨⟨o, f', h2⟩, q1, q⟩ := ob_some.mp q
  rcases o with n | w
  · cases q
  · dsimp only [Sum.elim_inr] at q
    split at q
    · rename_i hw
      cases q
      exact ⟨f', q1, hw⟩
    · cases q
theorem ends_B : ENDS cvoI (some .byte) .ireturn (fun v => vp_nar .byte v = v) := fun κ p l e R s m args below meth c H locs cells slots cc Qc free v pc ls ok hx hb hr hq hf hd hl => W.zret hx hb hr (by
  have h1 : narrow .byte (.int v) = .int (vp_nar .byte v) := rfl
  rw [h1, ok]) hq hf hd hl
theorem ends_C : ENDS cvoI (some .char) .ireturn (fun v => vp_nar .char v = v) := fun κ p l e R s m args below meth c H locs cells slots cc Qc free v pc ls ok hx hb hr hq hf hd hl => W.zret hx hb hr (by
  have h1 : narrow .char (.int v) = .int (vp_nar .char v) := rfl
  rw [h1, ok]) hq hf hd hl
theorem pK_txt {κ : KX} {h : St} {H : Heap} (b : Rep κ h H) {r : Nat} (hc : (hk h r).1 = 19) : ∃ j, j < 14 ∧ r = 3 + j ∧ rv κ r = .ref (kpre κ (3 + j)) ∧ rv κ (r + 14) = .ref (kpre κ (17 + j)) := by
  obtain ⟨r1, r2, r3⟩ := b.pre (r := r) (by omega) (by omega)
  rw [r2] at hc
  unfold pK at hc
  unfold n0 at r1
  have h3 : 3 ≤ r ∧ r < 17 := by
    split at hc
    · cases hc
    split at hc
    · cases hc
    split at hc
    · cases hc
    split at hc
    · omega
    · cases hc
  refine ⟨r - 3, by omega, by omega, ?_, ?_⟩
  · unfold rv al
    rw [if_neg (by omega), if_pos (by unfold n0; omega)]
    congr 2
    omega
  · unfold rv al
    rw [if_neg (by omega), if_pos (by unfold n0; omega)]
    congr 2
    omega
section
variable {α : Type} {rt : (KX → α → Option Value) × Instr} {mi : MI} {ΓL ΓH Γ Γ' Γ'' : Gm} {PB PK X XA : List Nat} {k x pc pc' pn p1 p2 p3 p4 idx : Nat}
theorem t_none : SS rt mi ΓL PB PK Γ Γ' pc X dNone := by
  refine ⟨fun f h o f' h' q => (by cases q), ?_⟩
  intro κ p l e R s m args below meth c nb sb Q C f h o f' h' q
  cases q
theorem s_tval {A : Ex Nat} (ha : SE cvR mi Γ k pc p1 A) (d : decode mi.2.1 p1 = .ok (.getfield idx, 3)) (hl : Cond.fieldLink mi.1 idx "java/lang/String" "value" "[B" ∈ TB) : SE cvR mi Γ k pc (p1 + 3) (dTv A) := by
  refine ⟨fun f h v h' q => ?_, ?_⟩
  · obtain ⟨⟨a, h1⟩, q1, q⟩ := ob_some.mp q
    dsimp only at q
    split at q
    · cases q
      exact ha.1 _ _ _ _ q1
    · cases q
  · intro κ p l e R s m args below meth c nb sb Q C f h v h' q L st hst K
    obtain ⟨⟨a, h1⟩, q1, q⟩ := ob_some.mp q
    dsimp only at q
    split at q
    · rename_i hc
      cases q
      refine ha.2 κ p l e R s m args below meth c nb sb Q C f h a _ q1 L st hst ?_
      intro ls H locs a0 b d1 e1 e2
      obtain ⟨j, hj, rfl, z1, z2⟩ := pK_txt b hc
      have k1 := K ls H locs a0 b d1 e1 e2
      unfold cvR at k1 ⊢
      rw [z2] at k1
      rw [z1]
      have hE := (C.2.2.2.2.2.2.2.1.2.2.2.2.1.1 j hj).2.2.1
      exact vk_getf C.exec C.code hE d1 C.own (C.tb _ hl) (fun _ z => z) d k1
    · cases q
theorem s_tcod {A : Ex Nat} (ha : SE cvR mi Γ k pc p1 A) (d : decode mi.2.1 p1 = .ok (.getfield idx, 3)) (hl : Cond.fieldLink mi.1 idx "java/lang/String" "coder" "B" ∈ TB) : SE cvI mi Γ k pc (p1 + 3) (dTc A) := by
  refine ⟨fun f h v h' q => ?_, ?_⟩
  · obtain ⟨⟨a, h1⟩, q1, q⟩ := ob_some.mp q
    dsimp only at q
    split at q
    · cases q
      exact ha.1 _ _ _ _ q1
    · cases q
  · intro κ p l e R s m args below meth c nb sb Q C f h v h' q L st hst K
    obtain ⟨⟨a, h1⟩, q1, q⟩ := ob_some.mp q
    dsimp only at q
    split at q
    · rename_i hc
      cases q
      refine ha.2 κ p l e R s m args below meth c nb sb Q C f h a _ q1 L st hst ?_
      intro ls H locs a0 b d1 e1 e2
      obtain ⟨j, hj, rfl, z1, z2⟩ := pK_txt b hc
      have k1 := K ls H locs a0 b d1 e1 e2
      unfold cvR
      rw [z1]
      have hE := (C.2.2.2.2.2.2.2.1.2.2.2.2.1.1 j hj).2.1
      exact vk_getf C.exec C.code hE d1 C.own (C.tb _ hl) (fun _ z => z) d k1
    · cases q
theorem x_callT {β : Type} {n nw rk maxL : Nat} {y : MethodName} {bytes : ByteArray} {ret : Option FieldType} {cvo : KX → β → Option Value} {D : Fr → St → Option (β × St)} {A : Ag} {ts ts' : Gm} (hCN : y.cls = "java/lang/String") (hD : SND y bytes maxL ret rk ts cvo D) (M : MOK y bytes maxL ret n) (hin : Cond.instanceMethod y ∈ TB) (hse : Cond.selects y.cls y y ∈ TB) (hts : ts = (0, 2) :: ts') (hn1 : ts'.length = n) (hrk : Nat.ble (rk + 1) mi.2.2.2.1 = true) (hk8 : Nat.ble k 8 = true) (ha : SA mi Γ k pc p1 nw ts A) (d : decode mi.2.1 p1 = .ok (.invokevirtual idx, 3)) (hl : Cond.methodLink mi.1 idx y ∈ TB) : SV cvo mi Γ k pc (p1 + 3) (dCallV 19 D A) := by
  refine ⟨fun f h v h' q => ?_, ?_⟩
  · obtain ⟨⟨g, h1⟩, q1, q⟩ := ob_some.mp q
    dsimp only at q
    split at q
    · exact (ha.1 _ _ _ _ q1).tr (hD.1 _ _ _ _ q)
    · cases q
  · intro κ p l e R s m args below meth c nb sb Q C f h v h' q L st hst1 K
    obtain ⟨⟨g, h1⟩, q1, q⟩ := ob_some.mp q
    dsimp only at q
    split at q
    · rename_i hc
      have hle := hD.1 _ _ _ _ q
      refine ha.2.2 κ p l e R s m args below meth c nb sb Q C f h g h1 q1 (L.le hle) st hst1 ?_
      intro ls H locs a b d1 e1 e2
      obtain ⟨j, hj, hr, z1, z2⟩ := pK_txt b hc
      have hrecv := vk_recv C.2.2.2.2.2.2.2.1.2.2.2.2.1 hj d1
      have hM := hD.2 l κ g h1 v h' q
      have hav : ts.map (fun q => (lvv κ g q).2) = Value.ref (kpre κ (3 + j)) :: ts'.map (fun q => (lvv κ g q).2) := by
        rw [hts, List.map_cons]
        congr 1
      rw [hav] at hM ⊢
      refine go_back d1 hle e1 e2 (va_runV (As := ts'.map fun q => (lvv κ g q).2) (b := kpre κ (3 + j)) (rest := st) ⟨C.exec, C.code, C.2.2.1, C.own, C.tb⟩ hM ⟨C.callB M (by simpa using hrk) hl, C.tb _ hin, C.tb _ hse⟩ ⟨blind_pre, by rw [hCN]; exact hrecv, fun U hU hW => ⟨rfl, C.pre1 b d1 hU hW⟩⟩ rfl (by rw [List.length_map]; exact hn1) (ls_size a) (by simp) (lv_room (k8 hst1 hk8)) d (lim_call L hle e1 e2)) fun H1 locs1 b1 d2 => K ls H1 locs1 a b1 d2 (Nat.le_trans e1 hle.1) (Nat.le_trans e2 hle.2)
    · cases q
end
/-- a contract for arguments that need not all be named -/
theorem met_vs {α : Type} {y : MethodName} {bytes : ByteArray} {maxL rk : Nat} {ret : Option FieldType} {cvo : KX → α → Option Value} {ri : Instr} {ok : α → Prop} {Γ Γ' : Gm} {S : Sm α} {l : Launch} {κ : KX} {f f' : Fr} {h h' : St} {v : α} (hE : ENDS cvo ret ri ok) (hy : plainName y.cls = true) (vs : List Value) (hlen : (lg_sl vs).length ≤ maxL) (hlv : ∀ q ∈ Γ.map (lvv κ f), q ∈ lv_args 0 vs)
    (hS : SS (cvo, ri) (y.cls, bytes, maxL, rk, false) [] [] [] Γ Γ' 0 [] S) (q1 : S f h = some (.inr v, f', h')) (hok : ok v) : Met l y (.code y bytes maxL ret :: TB) (RM rk (hn h' - hn h) (hs h' - hs h)) (va_Pc vs (PRE1 κ h)) (fun _ st oc t => oc = .returned (cvo κ v) ∧ Rep κ h' t.heap ∧ va_F (AQ κ) st t) (hn h' - hn h) (hs h' - hs h) (AQ κ) := by
  refine Met.ofW (cc := bytes) (maxL := maxL) (ret := ret) hy rfl ?_
  intro p e s m args below meth c s₁ B hml hv
  obtain ⟨rfl, hRep, hK, hNB, hPK⟩ := hv
  have hts1 := atoms_spec (ws := Cond.code y bytes maxL ret :: TB) B.pre
  have hown : s.vm.findClass y.cls = some m.cls := findClass_of_methodNamed B.named
  have hlk := B.notSynchronized
  have C : CXT (y.cls, bytes, maxL, rk, false) κ p (headSpec (Cond.code y bytes maxL ret :: TB) (RM rk (hn h' - hn h) (hs h' - hs h))).room s m vs.toArray meth c :=
    ⟨B.exec, B.bytes, hml, hown, fun w hw => hts1 w (List.mem_cons_of_mem _ hw), hK, hNB, hPK, Nat.le_refl _, Nat.le_refl _, fun hi => by cases hi⟩
  have hl := lv_entry vs (n := maxL) hlen
  rw [lg_entry_eq]
  generalize (lg_sl vs ++ List.replicate (maxL - (lg_sl vs).length) Slot.unset).toArray = ls at hl ⊢
  have k1 := hS.2 κ p l e _ s m vs.toArray below meth c (hn h) (hs h) (MQ below (fun _ st oc t => oc = .returned (cvo κ v) ∧ Rep κ h' t.heap ∧ va_F (AQ κ) st t) vs.toArray s (hn h' - hn h) (hs h' - hs h) (AQ κ)) C f h (.inr v) f' h' q1 ⟨Nat.le_refl _, Nat.le_refl _⟩ (fun z => by cases z) (fun z => by cases z) (fun z => by cases z) (fun v1 z => by
    cases z
    intro pc f hd ls1 H1 locs1 a1 b1 d1 e1 e2
    exact hE κ p l e _ s m _ below meth c H1 locs1 (hn h' - hn h) (hs h' - hs h) bytes _ _ v pc ls1 hok B.exec B.bytes B.returns (fun t ht hW => ⟨rfl, by rw [ht]; exact b1, d1.F ht⟩) d1.2.2 hd hlk)
  have k3 := k1 ls s.heap [] ⟨hl.1, hl.2.1, fun q hq => hl.2.2 q (hlv q hq)⟩ hRep va_S.rf (Nat.le_refl _) (Nat.le_refl _)
  rw [Nat.sub_self, Nat.sub_self] at k3
  exact k3
-- Preconditions.checkIndex, String.checkIndex
theorem dJ3_0 : decode cJ3_checkIndex_8e157 0 = .ok (.iload_n 0, 1) := by decide +kernel
theorem dJ3_1 : decode cJ3_checkIndex_8e157 1 = .ok (.ifCond .lt 8, 3) := by decide +kernel
theorem dJ3_4 : decode cJ3_checkIndex_8e157 4 = .ok (.iload_n 0, 1) := by decide +kernel
theorem dJ3_5 : decode cJ3_checkIndex_8e157 5 = .ok (.iload_n 1, 1) := by decide +kernel
theorem dJ3_6 : decode cJ3_checkIndex_8e157 6 = .ok (.if_icmp .lt 10, 3) := by decide +kernel
theorem dJ3_16 : decode cJ3_checkIndex_8e157 16 = .ok (.iload_n 0, 1) := by decide +kernel
theorem dJ3_17 : decode cJ3_checkIndex_8e157 17 = .ok (.ireturn, 1) := by decide +kernel
def b_chk : Sm Int32 := dIf (dAnd (dCZ q_ge (vI 0)) (dCI r_lt (vI 0) (vI 1))) (dRet (vI 0)) dNone
theorem ss_chk (rk : Nat) : SS (cvoI, .ireturn) (yJ3_checkIndex_8e157.cls, cJ3_checkIndex_8e157, 3, rk, false) [] [] [] [(0, 0), (1, 0)] [(0, 0), (1, 0)] 0 [] b_chk :=
  t_if (pT := 16) (pF := 9) (XA := []) (XB := []) (c_and (c_ge_ZF (s_iload_n dJ3_0 rfl rfl) dJ3_1 rfl) (c_lt_J (s_iload_n dJ3_4 rfl rfl) (s_iload_n dJ3_5 rfl rfl) dJ3_6 rfl)) (t_ret (cv := cvI) (fun _ _ => rfl) (s_iload_n dJ3_16 rfl rfl) dJ3_17) t_none lda_nil lda_nil
theorem met_chk (l : Launch) (κ : KX) (h : St) (i n : Int32) (v : Value) (hv : v.category = 1) (hi1 : 0 ≤ i) (hn1 : i < n) : Met l yJ3_checkIndex_8e157 (.code yJ3_checkIndex_8e157 cJ3_checkIndex_8e157 3 (some .int) :: TB) (RM 0 (hn h - hn h) (hs h - hs h)) (va_Pc [.int i, .int n, v] (PRE1 κ h)) (fun _ st oc t => oc = .returned (cvoI κ i) ∧ Rep κ h t.heap ∧ va_F (AQ κ) st t) (hn h - hn h) (hs h - hs h) (AQ κ) := by
  refine met_vs (f := sI (sI fr0 0 i) 1 n) (f' := sI (sI fr0 0 i) 1 n) ends_I (by decide) [.int i, .int n, v] ?_ ?_ (ss_chk 0) ?_ trivial
  · have e0 : lg_sl [.int i, .int n, v] = .val (.int i) :: .val (.int n) :: (if v.category = 2 then [.val v, .second] else [.val v]) := by
      simp [lg_sl, List.flatMap_cons]
      rfl
    rw [e0, if_neg (by rw [hv]; decide)]
    exact Nat.le_refl 3
  · intro q hq
    have h2 : lv_args 0 [.int i, .int n, v] = [(0, .int i), (1, .int n), (2, v)] := rfl
    rw [h2]
    have h3 : ([(0, 0), (1, 0)] : Gm).map (lvv κ (sI (sI fr0 0 i) 1 n)) = [(0, .int i), (1, .int n)] := rfl
    rw [h3] at hq
    simp only [List.mem_cons, List.not_mem_nil, or_false] at hq ⊢
    rcases hq with rfl | rfl
    · exact Or.inl rfl
    · exact Or.inr (Or.inl rfl)
  · simp only [b_chk, dIf, dAnd, dCZ, dCI, vI, ob, q_ge, r_lt, dRet, gI_sI]
    simp [hi1, hn1]
theorem dJ0c_0 : decode cJ0_checkIndex_df160 0 = .ok (.iload_n 0, 1) := by decide +kernel
theorem dJ0c_1 : decode cJ0_checkIndex_df160 1 = .ok (.iload_n 1, 1) := by decide +kernel
theorem dJ0c_2 : decode cJ0_checkIndex_df160 2 = .ok (.getstatic 1053, 3) := by decide +kernel
theorem dJ0c_5 : decode cJ0_checkIndex_df160 5 = .ok (.invokestatic 1059, 3) := by decide +kernel
theorem dJ0c_8 : decode cJ0_checkIndex_df160 8 = .ok (.pop, 1) := by decide +kernel
theorem dJ0c_9 : decode cJ0_checkIndex_df160 9 = .ok (.return_, 1) := by decide +kernel
def b_chk2 : Sm Unit := fun f h => if 0 ≤ gI f 0 ∧ gI f 0 < gI f 1 then some (.inl 0, f, h) else none
theorem mok_chk : MOK yJ3_checkIndex_8e157 cJ3_checkIndex_8e157 3 (some .int) 3 := ⟨w5_168, w1_16, ⟨by decide, by decide⟩, by decide +kernel, by decide⟩
theorem ss_chk2 : SS (cvoV, .return_) (yJ0_checkIndex_df160.cls, cJ0_checkIndex_df160, 2, 1, false) [] [] [] [(0, 0), (1, 0)] [(0, 0), (1, 0)] 0 [9] b_chk2 := by
  refine ⟨fun f h o f' h' q => ?_, ?_⟩
  · unfold b_chk2 at q
    split at q
    · cases q; exact LE.rf _
    · cases q
  · intro κ p l e R s m args below meth c nb sb Q C f h o f' h' q L K0 _ _ _
    unfold b_chk2 at q
    split at q
    · rename_i hc
      cases q
      intro ls H locs a b d1 e1 e2
      refine lv_iload_n C.exec C.code dJ0c_0 rfl (lv_get a (i := 0) (t := 0) rfl) ?_
      refine lv_iload_n C.exec C.code dJ0c_1 rfl (lv_get a (i := 1) (t := 0) rfl) ?_
      have hgo : ∀ v : Value, v.category = 1 → va_Z "jdk/internal/util/Preconditions" "SIOOBE_FORMATTER" "Ljava/util/function/BiFunction;" v (AQ κ) s s.heap → W p l e R s m args below meth c H locs (hn h - nb) (hs h - sb) Q (F0 m 2 ls [.int (gI f 1), .int (gI f 0)]) := by
        intro v hv hZ
        refine va_gets C.exec C.code hZ d1 C.own (C.tb _ w5_164) (fun _ z => z) dJ0c_2 ?_
        refine go_back d1 (LE.rf h) e1 e2 (va_runS (As := [.int (gI f 0), .int (gI f 1), v]) (rest := []) ⟨C.exec, C.code, C.2.2.1, C.own, C.tb⟩ (met_chk l κ h (gI f 0) (gI f 1) v hv hc.1 hc.2) ⟨C.callB mok_chk (Nat.le_refl 1) w5_166, C.tb _ w5_167⟩ ⟨blind_pre, fun U hU hW => ⟨rfl, C.pre1 b d1 hU hW⟩⟩ rfl rfl (ls_size a) rfl (lv_room (Nat.zero_le 8)) dJ0c_5 (lim_call L (LE.rf h) e1 e2)) fun H1 locs1 b1 d2 => ?_
        refine lv_pop C.exec C.code dJ0c_8 rfl ?_
        exact K0 rfl 9 (List.mem_singleton.mpr rfl) ls H1 locs1 a b1 d2 e1 e2
      rcases C.2.2.2.2.2.2.2.1.2.2.2.2.2.2.1 with hZ | ⟨t, hZ⟩
      · exact hgo .null rfl hZ
      · exact hgo (.ref t) rfl hZ
    · cases q
def D_chk : Fr → St → Option (Unit × St) := M1 (fun f => sI (sI fr0 0 (gI f 0)) 1 (gI f 1)) (dSeq b_chk2 dRet0)
theorem k_chk : SND yJ0_checkIndex_df160 cJ0_checkIndex_df160 2 none 1 [(0, 0), (1, 0)] cvoV D_chk :=
  snd_V (ini := false) (nw := 2) (by decide) (fun z => by cases z) rfl rfl (fun _ _ => rfl) (t_sq ss_chk2 (t_ret0 (fun _ _ => rfl) dJ0c_9) (Γ'' := [(0, 0), (1, 0)]))
