/-! THE LINK: outlets, lakes, the net -/
section LINK6
variable {σ τ u : sw_Sg} {n a b c sea g br wn k : Nat}
theorem ln_lakes (e : eq2_ c τ u) (hc : cI_ n a b c sea g br wn k τ) (h2 : 2 ≤ k) (hm : mL_ n a b c sea g br wn u) : lk_n (lk_m n (τ 48) (τ 41)) (n * n) = lk_n (lk_m n (u 70) (u 65)) (n * n) ∧ ∀ q, q < n * n → lk_n (lk_c n (τ 48) (τ 41) q) (n * n) = lk_n (lk_c n (u 70) (u 65) q) (n * n) := by
  have r := ln_rows e hc h2 hm
  have r' : ∀ p, p < n * n → τ 48 p = u 70 p ∧ τ 41 p = u 65 p := fun p hp => ⟨(r p hp).2.2.2.2.2, (r p hp).2.1⟩
  exact ⟨lk_m_congr r', fun q hq => lk_cn_congr hq r' _⟩
theorem ln_outlet (e : eq2_ c τ u) (hc : cI_ n a b c sea g br wn k τ) (h2 : 2 ≤ k) {h' T' lv' od' : Nat → Nat} {D' : Nat → Option Nat}
    (y1 : ∀ p, p < n * n → gr_ht (u 59 0) (u 61) (u 62) (u 63) c a b n p = nI (h' p) ∧ h' p ≤ 400 ∧ u 64 p = nI (h' p)) (y2 : ww_F n h' sea (u 60 1) T' lv' od' D' 65 66 69 67 70 u) {r q : Nat} (hq : q < n * n)
    (hr : ∀ O : Nat → Nat, (∀ q, q < n * n → (D' q = none → O q = q) ∧ ∀ r, D' q = some r → O q = O r) → r = O q) : τ 44 q = nI r := by
  obtain ⟨hK, -, -, -, c2, -⟩ := hc
  obtain ⟨hh, x1, ⟨T, lv, od, D, O, x2, x3, x4⟩, -⟩ := c2 h2
  have eh := ln_heights e hK.1.2.1 x1 y1
  rw [e.2.1] at x2
  have w := ln_water eh x2 y2
  have full : ∀ p, p < n * n → wt_tk T (n * n) p := fun p hp => by
    obtain ⟨i, i1, i2⟩ := wt_pig (n * n) T (fun i hi => (x2.1.1 i hi).1) (fun i j hi hj e => wt_inj x2.1.1 hi hj e) p hp
    exact ⟨i, i1, i2⟩
  rw [x4 q hq, hr O (fun p hp => ?_)]
  obtain ⟨-, o1, o2⟩ := x3 p hp (full p hp)
  rw [← (w p hp).2]
  exact ⟨o1, o2⟩
theorem ln_netF (e : eq2_ c τ u) (hc : cI_ n a b c sea g br wn 4 τ) (hm : mL_ n a b c sea g br wn u) {h' : Nat → Nat} {D' : Nat → Nat → Option Nat} {T' : nj_T} (y1 : ∀ p, p < n * n → u 64 p = nI (h' p) ∧ h' p ≤ 400)
    (y2 : nk_N n h' (u 70) br (ct_L n g wn 64 70 69 u).length (ct_p (ct_L n g wn 64 70 69 u)) D' T') : ∃ h D T, (∀ p, p < n * n → τ 40 p = nI (h p) ∧ h p ≤ 400) ∧ (∀ p, p < n * n → h p = h' p ∧ τ 48 p = u 70 p) ∧ nk_F n h (τ 48) br (ct_L n g wn 64 70 69 u).length (ct_p (ct_L n g wn 64 70 69 u)) D T τ ∧ (∀ t, t < (ct_L n g wn 64 70 69 u).length → D t = D' t) ∧ T = T' := by
  have r := ln_rows e hc (by omega) hm
  have eL := (ln_L e hc (by omega) hm).2
  obtain ⟨hh, D, T, x1, x2⟩ := hc.2.2.2.2.2.2 (by omega)
  rw [eL] at x2
  have eh : ∀ p, p < n * n → hh p = h' p ∧ τ 48 p = u 70 p := fun p hp => by
    refine ⟨?_, (r p hp).2.2.2.2.2⟩
    have := (r p hp).1
    rw [(x1 p hp).1, (y1 p hp).1, nI_eq (by have := (x1 p hp).2; omega) (by have := (y1 p hp).2; omega)] at this
    exact this
  have hp : ∀ t, t < (ct_L n g wn 64 70 69 u).length → ct_p (ct_L n g wn 64 70 69 u) t < n * n := fun t ht => ((mL_L hm).2.2 t ht).2.1
  obtain ⟨z1, z2⟩ := ln_net eh hp x2.1 y2
  exact ⟨hh, D, T, x1, eh, x2, z1, z2⟩
end LINK6
