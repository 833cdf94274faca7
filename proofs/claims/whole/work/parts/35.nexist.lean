/-! COSTS: there are some -/
section NEXIST
variable {n br q r s M : Nat} {h : Nat → Nat} {kd : Nat → Int32} {S : Nat → Prop} {d : Nat → Option Nat}
theorem nt_edges (hh : ∀ p, p < n * n → h p ≤ 400) (b100 : br ≤ 100) (hC : nt_C n h kd br s S d r M) (hqS : S q) (hq : d q = some r) (hM : r + 510 ≤ M) :
    ∃ d', nt_C n h kd br s S d' r M ∧ nt_dn d d' ∧ (∀ v, S v → d' v = d v) ∧ nt_cl n h kd br d' q := by
  have qP : q < n * n := (hC.2.1 q r hq).1
  have loop : ∀ (k e : Nat), e + k = 4 → ∀ d1 : Nat → Option Nat, nt_C n h kd br s S d1 r M → nt_dn d d1 → (∀ v, S v → d1 v = d v) →
      (∀ e' v, e' < e → gr_nb n q e' = some v → nt_pass kd v → ∃ c', d1 v = some c' ∧ c' ≤ r + nt_st h kd br q v) →
      ∃ d', nt_C n h kd br s S d' r M ∧ nt_dn d d' ∧ (∀ v, S v → d' v = d v) ∧ nt_cl n h kd br d' q := by
    intro k
    induction k with
    | zero =>
      intro e he d1 hC1 hdn hSd hcl
      refine ⟨d1, hC1, hdn, hSd, fun c0 v e0 ha hp => ?_⟩
      obtain ⟨e', e4, ea⟩ := ha
      rw [hSd q hqS, hq] at e0
      cases e0
      exact hcl e' v (by omega) ea hp
    | succ k ih =>
      intro e he d1 hC1 hdn hSd hcl
      have dq : d1 q = some r := by rw [hSd q hqS]; exact hq
      have skip : (∀ v, gr_nb n q e = some v → nt_pass kd v → ∃ c', d1 v = some c' ∧ c' ≤ r + nt_st h kd br q v) → ∃ d', nt_C n h kd br s S d' r M ∧ nt_dn d d' ∧ (∀ v, S v → d' v = d v) ∧ nt_cl n h kd br d' q := by
        intro hv
        refine ih (e + 1) (by omega) d1 hC1 hdn hSd (fun e' v he' ea hp => ?_)
        by_cases z : e' = e
        · subst z; exact hv v ea hp
        · exact hcl e' v (by omega) ea hp
      cases hnb : gr_nb n q e with
      | none => exact skip (fun v z => by rw [hnb] at z; cases z)
      | some v0 =>
        have vP := (gr_nb_lt qP hnb).1
        by_cases hp : nt_pass kd v0
        · have hst := nt_st_le (ht := h) (kd := kd) (br := br) (p := q) (q := v0) (hh q qP) (hh v0 vP) b100
          by_cases hbet : ∀ c0, d1 v0 = some c0 → r + nt_st h kd br q v0 < c0
          · obtain ⟨s1, s2, s3, s4⟩ := nt_relax hC1 dq ⟨e, by omega, hnb⟩ hp (by omega) hbet
            refine ih (e + 1) (by omega) _ s2 (fun v c0 e0 => ?_) (fun v hv => by rw [s4 v hv]; exact hSd v hv) (fun e' v he' ea hpv => ?_)
            · obtain ⟨c2, z1, z2⟩ := hdn v c0 e0
              obtain ⟨c3, z3, z4⟩ := s3 v c2 z1
              exact ⟨c3, z3, by omega⟩
            · by_cases ze : e' = e
              · subst ze
                rw [hnb] at ea; cases ea
                exact ⟨_, up_i, Nat.le_refl _⟩
              · obtain ⟨c2, z1, z2⟩ := hcl e' v (by omega) ea hpv
                obtain ⟨c3, z3, z4⟩ := s3 v c2 z1
                exact ⟨c3, z3, by omega⟩
          · refine skip (fun v z hpv => ?_)
            rw [hnb] at z; cases z
            cases hd : d1 v0 with
            | none => exact absurd (fun c0 z => by rw [hd] at z; cases z) hbet
            | some c0 =>
              refine ⟨c0, rfl, ?_⟩
              rcases Nat.lt_or_ge (r + nt_st h kd br q v0) c0 with z | z
              · exact absurd (fun c1 w => by rw [hd] at w; cases w; exact z) hbet
              · exact z
        · exact skip (fun v z hpv => by rw [hnb] at z; cases z; exact absurd hpv hp)
  exact loop 4 0 rfl d hC nt_dn.rf (fun _ _ => rfl) (fun e' v he' => absurd he' (Nat.not_lt_zero _))
theorem rk_b_ex (S : Nat → Prop) (d : Nat → Option Nat) : ∀ p, ∃ b, rk_b S d p b := by
  intro p
  induction p with
  | zero => exact ⟨none, fun v hv => absurd hv (Nat.not_lt_zero _)⟩
  | succ p ih =>
    obtain ⟨b, hb⟩ := ih
    have kp : (S p ∨ d p = none) → rk_b S d (p + 1) b := by
      intro z
      cases b with
      | none =>
        intro v hv hs
        by_cases e : v = p
        · subst e; exact z.resolve_left hs
        · exact hb v (by omega) hs
      | some b =>
        obtain ⟨b1, b2, c, b3, b4⟩ := hb
        refine ⟨by omega, b2, c, b3, fun v c' hv hs e' => ?_⟩
        by_cases e : v = p
        · subst e; rcases z with z | z
          · exact absurd z hs
          · rw [z] at e'; cases e'
        · exact b4 v c' (by omega) hs e'
    by_cases hs : S p
    · exact ⟨b, kp (Or.inl hs)⟩
    · cases hd : d p with
      | none => exact ⟨b, kp (Or.inr hd)⟩
      | some c =>
        cases b with
        | none =>
          refine ⟨some p, by omega, hs, c, hd, fun v c' hv hs' e' => ?_⟩
          by_cases e : v = p
          · subst e; rw [hd] at e'; cases e'; exact Nat.le_refl _
          · rw [hb v (by omega) hs'] at e'; cases e'
        | some b =>
          obtain ⟨b1, b2, c1, b3, b4⟩ := hb
          by_cases hlt : c < c1
          · refine ⟨some p, by omega, hs, c, hd, fun v c' hv hs' e' => ?_⟩
            by_cases e : v = p
            · subst e; rw [hd] at e'; cases e'; exact Nat.le_refl _
            · have := b4 v c' (by omega) hs' e'; omega
          · refine ⟨some b, by omega, b2, c1, b3, fun v c' hv hs' e' => ?_⟩
            by_cases e : v = p
            · subst e; rw [hd] at e'; cases e'; omega
            · exact b4 v c' (by omega) hs' e'
theorem nt_ex (hh : ∀ p, p < n * n → h p ≤ 400) (b100 : br ≤ 100) (hs : s < n * n) : ∃ d, nt_ok n h kd br s d := by
  have loop : ∀ (k K : Nat), K + k = n * n → ∀ (b : Option Nat) (r : Nat) (Z : Nat → Nat) (d : Nat → Option Nat), (∀ i, i < K → Z i < n * n) → (∀ i j, i < K → j < K → Z i = Z j → i = j) → nt_C n h kd br s (wt_tk Z K) d r (510 * K) → (∀ u, wt_tk Z K u → nt_cl n h kd br d u) → rk_b (wt_tk Z K) d (n * n) b → ∃ d, nt_ok n h kd br s d := by
    intro k
    induction k with
    | zero =>
      intro K hKk b r Z d hZ hZi hC hcl hb
      cases b with
      | none =>
        refine ⟨d, hC.1, fun v c e => ?_, fun u c v e ha hp => ?_⟩
        · obtain ⟨a1, a2, a3⟩ := hC.2.1 v c e
          exact ⟨a1, by omega, a3⟩
        · by_cases hu : wt_tk Z K u
          · exact hcl u hu c v e ha hp
          · rw [hb u (hC.2.1 u c e).1 hu] at e; cases e
      | some q =>
        exfalso
        obtain ⟨q1, q2, -⟩ := hb
        obtain rfl : K = n * n := by omega
        obtain ⟨i, i1, i2⟩ := wt_pig (n * n) Z hZ hZi q q1
        exact q2 ⟨i, i1, i2⟩
    | succ k ih =>
      intro K hKk b r Z d hZ hZi hC hcl hb
      cases b with
      | none =>
        refine ⟨d, hC.1, fun v c e => ?_, fun u c v e ha hp => ?_⟩
        · obtain ⟨a1, a2, a3⟩ := hC.2.1 v c e
          exact ⟨a1, by omega, a3⟩
        · by_cases hu : wt_tk Z K u
          · exact hcl u hu c v e ha hp
          · rw [hb u (hC.2.1 u c e).1 hu] at e; cases e
      | some q =>
        obtain ⟨q2, hqS, ρ, q4, low⟩ := hb
        have hZ' : ∀ i, i < K + 1 → va_up Z K q i < n * n := by
          intro i hi
          by_cases z : i = K
          · subst z; rw [up_i]; exact q2
          · rw [up_o z]; exact hZ i (by omega)
        have hZi' : ∀ i j, i < K + 1 → j < K + 1 → va_up Z K q i = va_up Z K q j → i = j := by
          intro i j hi hj e
          by_cases z : i = K
          · by_cases z2 : j = K
            · omega
            · subst z
              rw [up_i, up_o z2] at e
              exact absurd ⟨j, by omega, e.symm⟩ hqS
          · by_cases z2 : j = K
            · subst z2
              rw [up_i, up_o z] at e
              exact absurd ⟨i, by omega, e⟩ hqS
            · rw [up_o z, up_o z2] at e
              exact hZi i j (by omega) (by omega) e
        have sub : ∀ v, wt_tk Z K v → wt_tk (va_up Z K q) (K + 1) v := fun v hv => wt_tk_snoc.mpr (Or.inl hv)
        have hqS' : wt_tk (va_up Z K q) (K + 1) q := wt_tk_snoc.mpr (Or.inr rfl)
        have rρ : r ≤ ρ := hC.2.2.2 q ρ q4 hqS
        have hC2 : nt_C n h kd br s (wt_tk (va_up Z K q) (K + 1)) d ρ (510 * (K + 1)) := by
          refine ⟨hC.1, fun v c e => ?_, fun v hv => ?_, fun v c1 e hv => low v c1 (hC.2.1 v c1 e).1 (fun z => hv (sub v z)) e⟩
          · obtain ⟨a1, a2, a3⟩ := hC.2.1 v c e
            exact ⟨a1, by omega, a3⟩
          · rcases wt_tk_snoc.mp hv with hv | rfl
            · obtain ⟨c1, e1, l1⟩ := hC.2.2.1 v hv
              exact ⟨c1, e1, by omega⟩
            · exact ⟨ρ, q4, Nat.le_refl _⟩
        have ρM := (hC.2.1 q ρ q4).2.1
        obtain ⟨d', g3, g4, g5, g6⟩ := nt_edges hh b100 hC2 hqS' q4 (by omega)
        obtain ⟨b, hb⟩ := rk_b_ex (wt_tk (va_up Z K q) (K + 1)) d' (n * n)
        refine ih (K + 1) (by omega) b ρ (va_up Z K q) d' hZ' hZi' g3 (fun w hw => ?_) hb
        rcases wt_tk_snoc.mp hw with hw2 | rfl
        · exact (hcl w hw2).dn g4 (g5 w hw)
        · exact g6
  refine loop (n * n) 0 (by omega) (some s) 0 (fun _ => 0) (nt_d0 s) (fun i hi => absurd hi (Nat.not_lt_zero _)) (fun i j hi => absurd hi (Nat.not_lt_zero _)) ⟨nt_d0_i, fun v c e => ?_, fun v ⟨i, i1, _⟩ => absurd i1 (Nat.not_lt_zero _), fun v c _ _ => Nat.zero_le _⟩ (fun u ⟨i, i1, _⟩ => absurd i1 (Nat.not_lt_zero _)) ⟨hs, fun ⟨i, i1, _⟩ => absurd i1 (Nat.not_lt_zero _), 0, nt_d0_i, fun _ _ _ _ _ => Nat.zero_le _⟩
  by_cases z : v = s
  · subst z; rw [nt_d0_i] at e; cases e; exact ⟨hs, Nat.zero_le _, 0, rfl, rfl⟩
  · rw [nt_d0_o z] at e; cases e
/-- the costs to each of several towns -/
theorem nt_exD {pl : Nat → Nat} {m : Nat} (hh : ∀ p, p < n * n → h p ≤ 400) (b100 : br ≤ 100) (hp : ∀ t, t < m → pl t < n * n) : ∃ D : Nat → Nat → Option Nat, ∀ t, t < m → nt_ok n h kd br (pl t) (D t) := by
  have : ∀ k, k ≤ m → ∃ D : Nat → Nat → Option Nat, ∀ t, t < k → nt_ok n h kd br (pl t) (D t) := by
    intro k
    induction k with
    | zero => intro _; exact ⟨fun _ _ => none, fun t ht => absurd ht (Nat.not_lt_zero _)⟩
    | succ k ih =>
      intro hk
      obtain ⟨D, hD⟩ := ih (by omega)
      obtain ⟨d, hd⟩ := nt_ex (kd := kd) hh b100 (hp k hk)
      refine ⟨va_up D k d, fun t ht => ?_⟩
      by_cases z : t = k
      · subst z; rw [up_i]; exact hd
      · rw [up_o z]; exact hD t (by omega)
  exact this m (Nat.le_refl _)
end NEXIST
