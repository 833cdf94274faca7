/-! THE LINK: heights, and what is laid, from both invariants -/
section LINK4
variable {σ τ u : sw_Sg} {n a b c sea g br wn k : Nat} {h h' : Nat → Nat}
/-- seed, stream rule and changes are the same on both sides -/
def eq_ (c : Nat) (σ : sw_Sg) : Prop := σ 1 0 = σ 59 0 ∧ σ 33 1 = σ 60 1 ∧ ∀ j, j < c → σ 34 j = σ 61 j ∧ σ 35 j = σ 62 j ∧ σ 36 j = σ 63 j
/-- after both: the class at τ, the reference at u -/
def eq2_ (c : Nat) (τ u : sw_Sg) : Prop := τ 1 0 = u 59 0 ∧ τ 33 1 = u 60 1 ∧ ∀ j, j < c → τ 34 j = u 61 j ∧ τ 35 j = u 62 j ∧ τ 36 j = u 63 j
theorem ln_heights (e : eq2_ c τ u) (n24 : n ≤ 24) (a1 : ∀ p, p < n * n → gr_ht (τ 1 0) (τ 34) (τ 35) (τ 36) c a b n p = nI (h p) ∧ h p ≤ 400 ∧ τ 40 p = nI (h p)) (a2 : ∀ p, p < n * n → gr_ht (u 59 0) (u 61) (u 62) (u 63) c a b n p = nI (h' p) ∧ h' p ≤ 400 ∧ u 64 p = nI (h' p)) : ∀ p, p < n * n → h p = h' p := by
  intro p hp
  obtain ⟨x1, x2, -⟩ := a1 p hp
  obtain ⟨y1, y2, -⟩ := a2 p hp
  have : gr_ht (τ 1 0) (τ 34) (τ 35) (τ 36) c a b n p = gr_ht (u 59 0) (u 61) (u 62) (u 63) c a b n p := by
    unfold gr_ht
    rw [e.1, gr_hs_congr c e.2.2]
  rw [x1, y1, nI_eq (by omega) (by omega)] at this
  exact this
end LINK4
