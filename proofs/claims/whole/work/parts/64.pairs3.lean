/-! BOTH at once: equal answers, signs and roads -/
section PAIRS3
variable {σ τ u w : sw_Sg} {n a b c sea g br wn k : Nat} {x y what v1 v2 : Int32}
theorem ln_over (e : eq2_ c w w) (hc : cI_ n a b c sea g br wn 4 w) (hm : mL_ n a b c sea g br wn w) : ∀ q, q < n * n → w 55 q = w 74 q ∧ sg_ (w 48 q) (q ∈ ct_L n g wn 40 48 43 w) (w 55 q) = sg_ (w 70 q) (q ∈ ct_L n g wn 64 70 69 w) (w 74 q) := by
  intro q hq
  obtain ⟨hK, hl, h', y1, y2, y3, D', T', y4, y5⟩ := id hm
  obtain ⟨hh, D, T, x1, eh, x2, eD, rfl⟩ := ln_netF e hc hm (fun p hp => ⟨(y1 p hp).2.2, (y1 p hp).2.1⟩) y4
  have hp : ∀ t, t < (ct_L n g wn 64 70 69 w).length → ct_p (ct_L n g wn 64 70 69 w) t < n * n := fun t ht => ((mL_L hm).2.2 t ht).2.1
  have er := ln_roads (br := br) eh hp eD (nj_R_I _ T x2.1.2) T.k (Nat.le_refl _)
  have eo : w 55 q = w 74 q := by rw [x2.2.2.2.2 q hq, y5.2.2.2.2 q hq, er]
  refine ⟨eo, ?_⟩
  rw [eo, (eh q hq).2]
  unfold sg_
  rw [(ln_L e hc (by omega) hm).2]
end PAIRS3
