set_option maxRecDepth 100000
set_option maxHeartbeats 1000000
/-! where a SLATE can have been at first: the model -/
theorem told_of {P : PT} (hW : WFP P) (h : 0 < P 0 7) : 0 < P 0 0 := Nat.pos_of_ne_zero (fun z => by have := hW.2.2.2.2.2.2.2.2.2.2.2.2.2.1 z; omega)
theorem nz6 : (-nI 6 = nI 0) = False := eq_false (by decide)
theorem nz2 : (-nI 2 = nI 0) = False := eq_false (by decide)
section
variable {W : St} {h g : St} {P : PT} {u w n s : Nat} {val : Nat → Int64}
theorem wo_oc (hW : WFP P) (hs : s < P 0 7) (n2 d : Nat) : gM (fun y => ocS P s val n2 (P 0 4) d y) (P 0 4) = woS (fhN P s val n2 (P 0 4)) (lyT P s) d := by
  have hb := hW.all
  unfold woS
  have e : gM (ctSn (fhN P s val n2 (P 0 4)) (fun x => lyT P s x d)) 8 = gM (fun y => ocS P s val n2 (P 0 4) d y) 8 := gM_cong 8 (fun y _ => cn_oc hW s n2 d y val)
  have h0 := gM_0 (f := fun y => ocS P s val n2 (P 0 4) d y) (m := P 0 4) (fun y hy => fb_ct_zero.mpr (fun x hx => by
    have := ly_lt (d := d) hW hs hx
    have z : ¬ lyT P s x d = y := by omega
    show (asS val (lyT P s x) n2 && decide (lyT P s x d = y)) = false
    rw [decide_eq_false z, Bool.and_false])) (8 - P 0 4)
  rw [show P 0 4 + (8 - P 0 4) = 8 by omega] at h0
  rw [e, h0]
end
