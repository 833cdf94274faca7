/-! THE LINK: the net -/
section LINK2
variable {n br m : Nat} {h h' : Nat → Nat} {kd kd' : Nat → Int32} {pl : Nat → Nat} {D D' : Nat → Nat → Option Nat} {T T' : nj_T} {τ u : sw_Sg}
theorem nj_B_congr {M : Nat → Prop} {Sc : Nat → Nat → Prop} {r : Option (Nat × Nat × Nat)} (e : ∀ t, t < m → D t = D' t) (hb : nj_B D pl m M Sc r) : nj_B D' pl m M Sc r := by
  have c1 : ∀ a b c, nj_c D' pl m M a b c → nj_c D pl m M a b c := fun a b c z => ⟨z.1, z.2.1, z.2.2.1, z.2.2.2.1, by rw [e b z.2.1]; exact z.2.2.2.2⟩
  have c2 : ∀ a b c, nj_c D pl m M a b c → nj_c D' pl m M a b c := fun a b c z => ⟨z.1, z.2.1, z.2.2.1, z.2.2.2.1, by rw [← e b z.2.1]; exact z.2.2.2.2⟩
  cases r with
  | none => exact fun a b c hs hc => hb a b c hs (c1 a b c hc)
  | some w =>
    obtain ⟨a, b, c⟩ := w
    exact ⟨hb.1, c2 a b c hb.2.1, fun a' b' c' hs hc => hb.2.2 a' b' c' hs (c1 a' b' c' hc)⟩
theorem nj_R_congr (e : ∀ t, t < m → D t = D' t) : ∀ j T, nj_R D pl m j T → nj_R D' pl m j T := by
  intro j
  induction j with
  | zero => intro T h; exact h
  | succ j ih =>
    rintro T ⟨s, r, h1, h2, rfl⟩
    exact ⟨s, r, ih s h1, nj_B_congr e h2, rfl⟩
/-- the costs and the joins are the same -/
theorem ln_net (hh : ∀ p, p < n * n → h p = h' p ∧ kd p = kd' p) (hp : ∀ t, t < m → pl t < n * n) (a : nk_N n h kd br m pl D T) (b : nk_N n h' kd' br m pl D' T') : (∀ t, t < m → D t = D' t) ∧ T = T' := by
  have e : ∀ t, t < m → D t = D' t := fun t ht => nt_one (nt_ok_congr (hp t ht) hh (a.1 t ht)) (b.1 t ht)
  exact ⟨e, nj_R_one _ _ _ (nj_R_congr e _ _ a.2) b.2⟩
theorem ly_N {N N' : Nat → Option Nat} {P : Nat} (hN : ∀ a, a < P → N a = N' a) (hlt : ∀ a b, a < P → N a = some b → b < P) : ∀ k o (g : Nat → Int32), (∀ b, o = some b → b < P) → nt_ly N k o g = nt_ly N' k o g := by
  intro k
  induction k with
  | zero => intro o g _; rfl
  | succ k ih =>
    intro o g ho
    cases o with
    | none => rfl
    | some p =>
      have hp := ho p rfl
      show nt_ly N k (N p) _ = nt_ly N' k (N' p) _
      rw [← hN p hp]
      exact ih (N p) _ (fun b hb => hlt p b hp hb)
theorem ln_roads (hh : ∀ p, p < n * n → h p = h' p ∧ kd p = kd' p) (hp : ∀ t, t < m → pl t < n * n) (e : ∀ t, t < m → D t = D' t) (hI : nj_I D pl m T) : ∀ i, i ≤ T.k → nr_rd n h kd br D pl T i = nr_rd n h' kd' br D' pl T i := by
  intro i
  induction i with
  | zero => intro _; rfl
  | succ i ih =>
    intro hi
    obtain ⟨f1, f2, -⟩ := hI.1 i (by omega)
    rw [nr_rd, nr_rd, ih (by omega), ← e _ f2]
    exact ly_N (P := n * n) (fun a ha => nx_congr ha hh 4) nx_lt (n * n) _ _ (fun b hb => by cases hb; exact hp _ f1)
theorem wy_N {N N' : Nat → Option Nat} {P : Nat} (hN : ∀ a, a < P → N a = N' a) (hlt : ∀ a b, a < P → N a = some b → b < P) : ∀ k o, (∀ b, o = some b → b < P) → nt_wy N k o = nt_wy N' k o := by
  intro k
  induction k with
  | zero => intro o _; rfl
  | succ k ih =>
    intro o ho
    cases o with
    | none => rw [wy_none, wy_none]
    | some p =>
      have hp := ho p rfl
      show nt_wy N k (N p) = nt_wy N' k (N' p)
      rw [← hN p hp]
      exact ih (N p) (fun b hb => hlt p b hp hb)
end LINK2
