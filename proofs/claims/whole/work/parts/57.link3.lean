/-! THE LINK: what net answers -/
section LINK3
variable {m : Nat} {T : nj_T} {u : sw_Sg}
theorem ln_nv (hT : nc_T m T u) (hk : T.k ≤ 5) {W : Nat} (hW : W < 2 ^ 31) (hr : W ≤ 2 ∨ 10 ≤ W) : nv_ u (nI W) = nz_ m T W := by
  obtain ⟨t1, t2, t3, t4, t5⟩ := hT
  have ne : ∀ j : Nat, j < 2 ^ 31 → ¬ W = j → ¬ nI W = nI j := fun j hj z e => z (by rw [nI_eq (by omega) (by omega)] at e; exact e)
  unfold nv_ nz_
  by_cases h0 : W = 0
  · subst h0; rw [if_pos (show nI 0 = 0 from rfl), if_pos rfl]; exact t1
  · rw [if_neg (show ¬ nI W = 0 from ne 0 (by omega) h0), if_neg h0]
    by_cases h1 : W = 1
    · subst h1; rw [if_pos (show nI 1 = 1 from rfl), if_pos rfl]; exact t2
    · rw [if_neg (show ¬ nI W = 1 from ne 1 (by omega) h1), if_neg h1]
      by_cases h2 : W = 2
      · subst h2; rw [if_pos (show nI 2 = 2 from rfl), if_pos rfl]; exact t3
      · rw [if_neg (show ¬ nI W = 2 from ne 2 (by omega) h2), if_neg h2]
        have e10 : nI W - 10 = nI (W - 10) := pk_sub (a := W) (b := 10) (by omega)
        have e2 : 2 * u 5 7 = nI (2 * T.k) := by rw [t3]; exact pk_mul 2 T.k
        rw [e10, e2]
        by_cases hl : W - 10 < 2 * T.k
        · rw [if_pos ((nI_ltI (by omega) (by omega)).mpr hl), if_pos hl, sw_at_n (by omega) (by decide)]
          obtain ⟨a1, a2⟩ := t5 ((W - 10) / 2) (by omega)
          by_cases hp : (W - 10) % 2 = 0
          · rw [if_pos hp, ← a1]; congr 1; omega
          · rw [if_neg hp, ← a2]; congr 1; omega
        · rw [if_neg (fun z => hl ((nI_ltI (by omega) (by omega)).mp z)), if_neg hl]
end LINK3
