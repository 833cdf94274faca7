/-! BOTH at once: equal answers, places -/
section PAIRS2
variable {σ τ u w : sw_Sg} {n a b c sea g br wn k : Nat} {x y what v1 v2 : Int32}
theorem E_lake {q : Nat} (h0 : eq_ c σ) (a1 : fc_ σ u) (a2 : ce_ σ u) (a3 : cI_ n a b c sea g br wn k u) (k2 : 2 ≤ k) (hq : q < n * n) (hv : v1 = nI (lk_n (lk_c n (u 48) (u 41) q) (n * n))) (b1 : mQ_ n a b c sea g br wn u w) (hw : v2 = nI (lk_n (lk_c n (w 70) (w 65) q) (n * n))) : v1 = v2 ∧ jI_ n a b c sea g br wn k w := by
  obtain ⟨j1, j2⟩ := jI_q h0 a1 a2 a3 b1.1 b1.2.1 b1.2.2.I
  refine ⟨?_, j1⟩
  rw [hv, hw, ← b1.1 48 (by omega), ← b1.1 41 (by omega), (ln_lakes j2 j1.1 k2 b1.2.2).2 q hq]
theorem E_towns (h0 : eq_ c σ) (a1 : fc_ σ u) (a2 : ce_ σ u) (a3 : cI_ n a b c sea g br wn 3 u) (hv : v1 = u 4 2) (b1 : mQ_ n a b c sea g br wn u w) (hw : v2 = w 59 19) : v1 = v2 ∧ jI_ n a b c sea g br wn 3 w := by
  obtain ⟨j1, j2⟩ := jI_q h0 a1 a2 a3 b1.1 b1.2.1 b1.2.2.I
  refine ⟨?_, j1⟩
  have e1 := (cI_L j1.1 (by omega)).1
  have e2 := (mL_L b1.2.2).1
  rw [hv, hw, ← b1.1 4 (by omega), e1, e2, (ln_L j2 j1.1 (by omega) b1.2.2).2]
theorem E_about {q : Nat} (h0 : eq_ c σ) (a1 : fc_ σ u) (a2 : ce_ σ u) (a3 : cI_ n a b c sea g br wn k u) (k3 : 3 ≤ k) (hq : q < n * n) (hv : v1 = av_ u q what) (b1 : mQ_ n a b c sea g br wn u w) (hw : ¬ what = 4 → v2 = am_ n w q what)
    (hw4 : what = 4 → ∃ h T lv od D, (∀ p, p < n * n → gr_ht (w 59 0) (w 61) (w 62) (w 63) c a b n p = nI (h p) ∧ h p ≤ 400 ∧ w 64 p = nI (h p)) ∧ ww_F n h sea (w 60 1) T lv od D 65 66 69 67 70 w ∧ ∃ r, r < n * n ∧ v2 = nI r ∧ ∀ O : Nat → Nat, (∀ q, q < n * n → (D q = none → O q = q) ∧ ∀ r, D q = some r → O q = O r) → r = O q) : v1 = v2 ∧ jI_ n a b c sea g br wn k w := by
  obtain ⟨j1, j2⟩ := jI_q h0 a1 a2 a3 b1.1 b1.2.1 b1.2.2.I
  refine ⟨?_, j1⟩
  obtain ⟨r1, r2, r3, r4, r5, r6⟩ := ln_rows j2 j1.1 (by omega) b1.2.2 q hq
  have ev : v1 = av_ w q what := by
    rw [hv]; unfold av_
    rw [b1.1 40 (by omega), b1.1 41 (by omega), b1.1 42 (by omega), b1.1 43 (by omega), b1.1 44 (by omega), b1.1 45 (by omega), b1.1 52 (by omega)]
  by_cases h4 : what = 4
  · obtain ⟨h, T, lv, od, D, y1, y2, r, -, e, hr⟩ := hw4 h4
    rw [ev, e, h4]
    exact ln_outlet j2 j1.1 (by omega) y1 y2 hq hr
  · have w6 : w 52 q = tw_worth n (w 64) (w 70) (w 69) q := by
      rw [(j1.1.2.2.2.2.2.1 k3).1 q hq, (ln_L j2 j1.1 (by omega) b1.2.2).1 q hq]
    rw [ev, hw h4]
    unfold av_ am_
    rw [r1, r2, r3, r4, r5, w6, if_neg h4]
end PAIRS2
