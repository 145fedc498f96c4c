/-! one more instruction -/
section
variable {mi : MI} {Γ : Gm} {k pc pc' p1 p2 : Nat}
def o_lshr (x : Int64) (y : Int32) : Int64 := x >>> (y.toInt64 &&& 63)
theorem s_lshr {A : Ex Int64} {B : Ex Int32} (ha : SE cvL mi Γ k pc p1 A) (hb : SE cvI mi Γ (k + 2) p1 p2 B) (d : decode mi.2.1 p2 = .ok (.lshr, 1)) : SE cvL mi Γ k pc (p2 + 1) (d2 o_lshr A B) := s_d2 2 catL (fun _ _ _ _ => rulI fun a b K => lv_lshr a b d rfl K) ha hb
end
