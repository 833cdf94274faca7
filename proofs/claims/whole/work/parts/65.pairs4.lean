/-! BOTH at once: equal answers: is, roads, many -/
section PAIRS4
variable {σ τ u w : sw_Sg} {n a b c sea g br wn k : Nat} {x y what v1 v2 : Int32}
theorem cI_4 (h : cI_ n a b c sea g br wn k u) (h4 : 4 ≤ k) : cI_ n a b c sea g br wn 4 u := by
  obtain rfl : k = 4 := by have := h.2.2.1; omega
  exact h
theorem E_is {q : Nat} (h0 : eq_ c σ) (a1 : fc_ σ u) (a2 : ce_ σ u) (a3 : cI_ n a b c sea g br wn k u) (k4 : 4 ≤ k) (hq : q < n * n) (hv : v1 = sg_ (u 48 q) (q ∈ ct_L n g wn 40 48 43 u) (u 55 q)) (b1 : mQ_ n a b c sea g br wn u w) (hw : v2 = sg_ (w 70 q) (q ∈ ct_L n g wn 64 70 69 w) (w 74 q)) : v1 = v2 ∧ jI_ n a b c sea g br wn k w := by
  obtain ⟨j1, j2⟩ := jI_q h0 a1 a2 a3 b1.1 b1.2.1 b1.2.2.I
  refine ⟨?_, j1⟩
  have eL : ct_L n g wn 40 48 43 w = ct_L n g wn 40 48 43 u := by unfold ct_L; rw [b1.1 40 (by omega), b1.1 48 (by omega), b1.1 43 (by omega)]
  rw [hw, ← (ln_over j2 (cI_4 j1.1 k4) b1.2.2 q hq).2, hv, b1.1 48 (by omega), b1.1 55 (by omega)]
  unfold sg_
  rw [eL]
theorem E_roads {q : Nat} (h0 : eq_ c σ) (a1 : fc_ σ u) (a2 : ce_ σ u) (a3 : cI_ n a b c sea g br wn k u) (k4 : 4 ≤ k) (hq : q < n * n) (hv : v1 = u 55 q) (b1 : mQ_ n a b c sea g br wn u w) (hw : v2 = w 74 q) : v1 = v2 ∧ jI_ n a b c sea g br wn k w := by
  obtain ⟨j1, j2⟩ := jI_q h0 a1 a2 a3 b1.1 b1.2.1 b1.2.2.I
  refine ⟨?_, j1⟩
  rw [hw, ← (ln_over j2 (cI_4 j1.1 k4) b1.2.2 q hq).1, hv, b1.1 55 (by omega)]
end PAIRS4
