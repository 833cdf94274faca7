/-! THE LINK: all rows, from both invariants -/
section LINK5
variable {σ τ u : sw_Sg} {n a b c sea g br wn k : Nat}
theorem ln_rows (e : eq2_ c τ u) (hc : cI_ n a b c sea g br wn k τ) (h2 : 2 ≤ k) (hm : mL_ n a b c sea g br wn u) :
    ∀ p, p < n * n → τ 40 p = u 64 p ∧ τ 41 p = u 65 p ∧ τ 42 p = u 66 p ∧ τ 45 p = u 67 p ∧ τ 43 p = u 69 p ∧ τ 48 p = u 70 p := by
  obtain ⟨hK, -, -, -, c2, -⟩ := hc
  obtain ⟨hh, x1, ⟨T, lv, od, D, O, x2, -⟩, -⟩ := c2 h2
  obtain ⟨-, -, h', y1, ⟨T', lv', od', D', y2⟩, -⟩ := hm
  have eh := ln_heights e hK.1.2.1 x1 y1
  rw [e.2.1] at x2
  intro p hp
  obtain ⟨⟨z1, z2, z3, z4, z5⟩, -⟩ := ln_water eh x2 y2 p hp
  exact ⟨by rw [(x1 p hp).2.2, (y1 p hp).2.2, eh p hp], z1, z2, z3, z4, z5⟩
theorem ln_L (e : eq2_ c τ u) (hc : cI_ n a b c sea g br wn k τ) (h2 : 2 ≤ k) (hm : mL_ n a b c sea g br wn u) : (∀ p, p < n * n → tw_worth n (τ 40) (τ 48) (τ 43) p = tw_worth n (u 64) (u 70) (u 69) p) ∧ ct_L n g wn 40 48 43 τ = ct_L n g wn 64 70 69 u :=
  ln_towns (fun p hp => ⟨(ln_rows e hc h2 hm p hp).1, (ln_rows e hc h2 hm p hp).2.2.2.2.2, (ln_rows e hc h2 hm p hp).2.2.2.2.1⟩)
end LINK5
