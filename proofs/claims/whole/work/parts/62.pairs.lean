/-! BOTH at once: equal answers -/
section PAIRS
variable {X : sw_X} {σ τ u w : sw_Sg} {n a b c sea g br wn k : Nat} {x y z what v1 v2 : Int32}
/-- lakes: the same answers -/
theorem E_lakes (h0 : eq_ c σ) (a1 : fc_ σ u) (a2 : ce_ σ u) (a3 : cI_ n a b c sea g br wn k u) (k2 : 2 ≤ k) (hv : v1 = u 3 3) (b1 : mQ_ n a b c sea g br wn u w) (hw : v2 = nI (lk_n (lk_m n (w 70) (w 65)) (n * n))) : v1 = v2 ∧ jI_ n a b c sea g br wn k w := by
  obtain ⟨j1, j2⟩ := jI_q h0 a1 a2 a3 b1.1 b1.2.1 b1.2.2.I
  refine ⟨?_, j1⟩
  have hc := j1.1
  obtain ⟨hh, -, -, l1, -⟩ := hc.2.2.2.2.1 k2
  rw [hv, hw, ← b1.1 3 (by omega), l1, (ln_lakes j2 hc k2 b1.2.2).1]
end PAIRS
