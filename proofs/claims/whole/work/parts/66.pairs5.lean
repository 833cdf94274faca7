/-! BOTH at once, method by method: equal answers, and the same numbers again -/
/-- some numbers are those of both -/
def J_ (σ : sw_Sg) : Prop := ∃ n a b c sea g br wn k : Nat, jI_ n a b c sea g br wn k σ
/-- a method of the class, then that of the reference, called with the same ints -/
def pr_ (X : sw_X) (mc mm : sw_Me) (As : List Value) (σ : sw_Sg) : Prop := ∃ (d1 : Nat) (RC : Int32 → sw_Sg → Prop), d1 ≤ 6 ∧ sw_Mi X d1 mc (.ref (sw_ad X 0) :: As) σ RC ∧ ∀ v1 u, RC v1 u → ∃ (d2 : Nat) (RM : Int32 → sw_Sg → Prop), d2 ≤ 6 ∧ sw_Mi X d2 mm (.ref (sw_ad X 59) :: As) u RM ∧ ∀ v2 w, RM v2 w → v1 = v2 ∧ J_ w
section PAIRS5
variable {X : sw_X} {σ τ u w : sw_Sg} {n a b c sea g br wn k : Nat} {x y z what v1 v2 : Int32}
theorem jI_.J (h : jI_ n a b c sea g br wn k σ) : J_ σ := ⟨n, a, b, c, sea, g, br, wn, k, h⟩
theorem pl_iff (n24 : n ≤ 24) : (0 ≤ x ∧ x < nI (n * n)) ↔ ∃ q, q < n * n ∧ x = nI q := by
  have h576 := gr_576 n24
  refine ⟨pl_in n24, ?_⟩
  rintro ⟨q, hq, rfl⟩
  exact ⟨nI_pos' (by omega), Int32.not_le.mp (nI_ge hq (by omega))⟩
theorem eq_less {c' : Nat} (h : eq_ c σ) (hc : c' ≤ c) : eq_ c' σ := ⟨h.1, h.2.1, fun j hj => h.2.2 j (by omega)⟩
theorem ct_m (b1 : fm_ u w) : ct_L n g wn 40 48 43 w = ct_L n g wn 40 48 43 u := by
  unfold ct_L; rw [b1 40 (by omega), b1 48 (by omega), b1 43 (by omega)]
theorem ln_rows2 (e : eq2_ c τ u) (hK : ck_ n a b c sea g br wn τ) (c2 : cs_2 n a b c sea τ) (hm : mL_ n a b c sea g br wn u) : ∀ p, p < n * n → τ 48 p = u 70 p ∧ τ 41 p = u 65 p := by
  obtain ⟨hh, x1, ⟨T, lv, od, D, O, x2, -⟩, -⟩ := c2
  obtain ⟨-, -, h', y1, ⟨T', lv', od', D', y2⟩, -⟩ := hm
  have eh := ln_heights e hK.1.2.1 x1 y1
  rw [e.2.1] at x2
  intro p hp
  obtain ⟨⟨z1, z2, z3, z4, z5⟩, -⟩ := ln_water eh x2 y2 p hp
  exact ⟨z5, z1⟩
theorem cs_2.fm (z : cs_2 n a b c sea u) (h : fm_ u w) : cs_2 n a b c sea w := by
  unfold cs_2 ww_F lg_F at z ⊢
  rw [h 1 (by decide), h 3 (by decide), h 33 (by decide), h 34 (by decide), h 35 (by decide), h 36 (by decide), h 40 (by decide), h 41 (by decide), h 42 (by decide), h 43 (by decide), h 44 (by decide), h 45 (by decide), h 48 (by decide), h 49 (by decide), h 50 (by decide)]
  exact z
theorem P_seed (h : J_ σ) : pr_ X mX7_seed mX8_seed [.int x] σ := by
  obtain ⟨n, a, b, c, sea, g, br, wn, k, hc, hm, he⟩ := h
  refine ⟨2, _, by omega, C_X7_seed hc, ?_⟩
  rintro v1 u ⟨a1, ⟨x1, x2, x3, x4, x5⟩, a3, rfl⟩
  refine ⟨0, _, by omega, C_X8_seed (hm.fc a1), ?_⟩
  rintro v2 w ⟨b1, ⟨y1, y2, y3, y4, y5⟩, b3, rfl⟩
  refine ⟨by rw [a1 59 (by omega)]; exact he.1, (show jI_ n a b c sea g br wn 0 w from ⟨a3.fm b1, b3, ?_⟩).J⟩
  unfold eq_
  rw [b1 1 (by decide), b1 33 (by decide), b1 34 (by decide), b1 35 (by decide), b1 36 (by decide), x1, x2, x3, x4, x5, y1, y2, y3, y4, y5, a1 60 (by decide), a1 61 (by decide), a1 62 (by decide), a1 63 (by decide)]
  exact ⟨rfl, he.2⟩
theorem P_ground (h : J_ σ) : pr_ X mX7_ground mX8_ground [.int x, .int y] σ := by
  obtain ⟨n, a, b, c, sea, g, br, wn, k, hj⟩ := h
  refine ⟨6, _, by omega, C_X7_ground hj.1, ?_⟩
  rintro v1 u ⟨rfl, a2, a3⟩
  refine ⟨6, _, by omega, C_X8_ground, ?_⟩
  rintro v2 w ⟨rfl, b2, b3⟩
  refine ⟨?_, hj.J⟩
  by_cases hx : (∃ i, i ≤ 200000 ∧ x = nI i) ∧ ∃ j, j ≤ 200000 ∧ y = nI j
  · obtain ⟨⟨i, i1, i2⟩, j, j1, j2⟩ := hx
    rw [a3 i j i1 j1 i2 j2, b3 i j i1 j1 i2 j2, hj.2.2.1]
  · rw [a2 hx, b2 hx]
theorem P_size (h : J_ σ) : pr_ X mX7_size mX8_size [.int x] σ := by
  obtain ⟨n, a, b, c, sea, g, br, wn, k, hc, hm, he⟩ := h
  refine ⟨2, _, by omega, C_X7_size hc, ?_⟩
  rintro v1 u ⟨a1, a2, a3, a4⟩
  refine ⟨1, _, by omega, C_X8_size (hm.fc a1), ?_⟩
  rintro v2 w ⟨b1, b2, b3, b4⟩
  by_cases hx : ∃ i, 4 ≤ i ∧ i ≤ 24 ∧ x = nI i
  · obtain ⟨i, i1, i2, i3⟩ := hx
    obtain ⟨z1, z2⟩ := a4 i i1 i2 i3
    obtain ⟨t1, t2⟩ := b4 i i1 i2 i3
    exact ⟨by rw [z1, t1], (jI_q he a1 a2 z2 b1 b2 t2).1.J⟩
  · obtain ⟨z1, z2⟩ := a3 hx
    obtain ⟨t1, rfl⟩ := b3 hx
    exact ⟨by rw [z1, t1], (jI_q he a1 a2 z2 b1 b2 (hm.fc a1)).1.J⟩
theorem P_window (h : J_ σ) : pr_ X mX7_window mX8_window [.int x, .int y] σ := by
  obtain ⟨n, a, b, c, sea, g, br, wn, k, hc, hm, he⟩ := h
  refine ⟨2, _, by omega, C_X7_window hc, ?_⟩
  rintro v1 u ⟨a1, a2, a3, a4⟩
  refine ⟨1, _, by omega, C_X8_window (hm.fc a1), ?_⟩
  rintro v2 w ⟨b1, b2, b3, b4⟩
  by_cases hx : (∃ i, i ≤ 100000 ∧ x = nI i) ∧ ∃ j, j ≤ 100000 ∧ y = nI j
  · obtain ⟨⟨i, i1, i2⟩, j, j1, j2⟩ := hx
    obtain ⟨z1, z2⟩ := a4 i j i1 j1 i2 j2
    obtain ⟨t1, t2⟩ := b4 i j i1 j1 i2 j2
    exact ⟨by rw [z1, t1], (jI_q he a1 a2 z2 b1 b2 t2).1.J⟩
  · obtain ⟨z1, z2⟩ := a3 hx
    obtain ⟨t1, rfl⟩ := b3 hx
    exact ⟨by rw [z1, t1], (jI_q he a1 a2 z2 b1 b2 (hm.fc a1)).1.J⟩
theorem P_undo (h : J_ σ) : pr_ X mX7_undo mX8_undo [] σ := by
  obtain ⟨n, a, b, c, sea, g, br, wn, k, hc, hm, he⟩ := h
  refine ⟨2, _, by omega, C_X7_undo hc, ?_⟩
  rintro v1 u ⟨a1, a2, a3, a4⟩
  refine ⟨0, _, by omega, C_X8_undo (hm.fc a1), ?_⟩
  rintro v2 w ⟨b1, b2, b3, b4⟩
  by_cases hx : c = 0
  · obtain ⟨z1, z2⟩ := a3 hx
    obtain ⟨t1, rfl⟩ := b3 hx
    exact ⟨by rw [z1, t1], (jI_q he a1 a2 z2 b1 b2 (hm.fc a1)).1.J⟩
  · obtain ⟨z1, z2⟩ := a4 (by omega)
    obtain ⟨t1, t2⟩ := b4 (by omega)
    exact ⟨by rw [z1, t1], (jI_q (eq_less he (by omega)) a1 a2 z2 b1 b2 t2).1.J⟩
theorem P_change (h : J_ σ) : pr_ X mX7_change mX8_change [.int x, .int y] σ := by
  obtain ⟨n, a, b, c, sea, g, br, wn, k, hc, hm, he⟩ := h
  have hj : jI_ n a b c sea g br wn k σ := ⟨hc, hm, he⟩
  have n24 := hc.1.1.2.1
  have c30 := hc.1.2.2.1.2.1
  refine ⟨6, _, by omega, C_X7_change hc, ?_⟩
  rintro v1 u ⟨a1, ⟨a2, a2'⟩, a3, a4⟩
  refine ⟨2, _, by omega, C_X8_change (hm.fc a1), ?_⟩
  rintro v2 w ⟨b1, ⟨b2, b2'⟩, b3, b4⟩
  by_cases hx : ∃ q, q < n * n ∧ x = nI q
  · obtain ⟨q, q1, q2⟩ := hx
    obtain ⟨z1, z2⟩ := a4 q q1 q2
    obtain ⟨t1, t2⟩ := b4 q q1 q2
    by_cases hy : -400 ≤ y ∧ y ≤ 400 ∧ ¬ y = 0
    · obtain ⟨z3, z4⟩ := z2 hy
      obtain ⟨t3, t4⟩ := t2 hy
      by_cases h30 : c = 30
      · obtain ⟨z5, rfl⟩ := z3 h30
        obtain ⟨t5, rfl⟩ := t3 h30
        exact ⟨by rw [z5, t5], hj.J⟩
      · obtain ⟨z5, z6, ⟨z7, z8, z9⟩, z10⟩ := z4 (by omega)
        obtain ⟨t5, t6, ⟨t7, t8, t9⟩, t10⟩ := t4 (by omega)
        refine ⟨by rw [z5, t5], (show jI_ n a b (c + 1) sea g br wn 1 w from ⟨z6.fm b1, t6, ?_⟩).J⟩
        unfold eq_
        rw [b1 1 (by decide), b1 33 (by decide), b1 34 (by decide), b1 35 (by decide), b1 36 (by decide), a2, a2', b2, b2', a1 59 (by decide), a1 60 (by decide)]
        refine ⟨he.1, he.2.1, fun j hj => ?_⟩
        by_cases hjc : j = c
        · subst hjc
          exact ⟨by rw [z7, t7], by rw [z8, t8], by rw [z9, t9]⟩
        · obtain ⟨p1, p2, p3⟩ := z10 j (by omega)
          obtain ⟨r1, r2, r3⟩ := t10 j (by omega)
          obtain ⟨e1, e2, e3⟩ := he.2.2 j (by omega)
          rw [p1, p2, p3, r1, r2, r3, a1 61 (by decide), a1 62 (by decide), a1 63 (by decide)]
          exact ⟨e1, e2, e3⟩
    · obtain ⟨z5, rfl⟩ := z1 hy
      obtain ⟨t5, rfl⟩ := t1 hy
      exact ⟨by rw [z5, t5], hj.J⟩
  · obtain ⟨z5, rfl⟩ := a3 (fun z => hx ((pl_iff n24).mp z))
    obtain ⟨t5, rfl⟩ := b3 hx
    exact ⟨by rw [z5, t5], hj.J⟩
theorem P_changed (h : J_ σ) : pr_ X mX7_changed mX8_changed [.int x, .int what] σ := by
  obtain ⟨n, a, b, c, sea, g, br, wn, k, hj⟩ := h
  refine ⟨6, _, by omega, C_X7_changed hj.1, ?_⟩
  rintro v1 u ⟨rfl, a2, a3⟩
  refine ⟨1, _, by omega, C_X8_changed hj.2.1, ?_⟩
  rintro v2 w ⟨rfl, b2, b3⟩
  refine ⟨?_, hj.J⟩
  by_cases hx : ∃ i, i < c ∧ x = nI i
  · obtain ⟨i, i1, i2⟩ := hx
    obtain ⟨e1, e2, e3⟩ := hj.2.2.2.2 i i1
    rw [a3 i i1 i2, b3 i i1 i2, ← e1, ← e2, ← e3]
    rfl
  · rw [a2 hx, b2 hx]
theorem P_lakes (h : J_ σ) : pr_ X mX7_lakes mX8_lakes [] σ := by
  obtain ⟨n, a, b, c, sea, g, br, wn, k, hc, hm, he⟩ := h
  obtain ⟨M, hM, M2⟩ : ∃ M, ((M = k ∧ 2 ≤ k) ∨ (M = 2 ∧ k ≤ 2)) ∧ 2 ≤ M := by
    rcases Nat.lt_or_ge k 2 with z | z
    · exact ⟨2, Or.inr ⟨rfl, by omega⟩, by omega⟩
    · exact ⟨k, Or.inl ⟨rfl, z⟩, z⟩
  refine ⟨6, _, by omega, C_X7_lakes hc hM, ?_⟩
  rintro v1 u ⟨a1, a2, a3, a4⟩
  refine ⟨5, _, by omega, C_X8_lakes (hm.fc a1), ?_⟩
  rintro v2 w ⟨b1, b2⟩
  obtain ⟨e, j⟩ := E_lakes he a1 a2 a3 M2 a4 b1 b2
  exact ⟨e, j.J⟩
theorem P_lake (h : J_ σ) : pr_ X mX7_lake mX8_lake [.int x] σ := by
  obtain ⟨n, a, b, c, sea, g, br, wn, k, hc, hm, he⟩ := h
  have n24 := hc.1.1.2.1
  refine ⟨6, _, by omega, C_X7_lake hc, ?_⟩
  rintro v1 u ⟨a1, a2, M, a3, a4, a5⟩
  refine ⟨5, _, by omega, C_X8_lake (hm.fc a1), ?_⟩
  rintro v2 w ⟨b3, b4⟩
  by_cases hx : ∃ q, q < n * n ∧ x = nI q
  · obtain ⟨q, q1, q2⟩ := hx
    obtain ⟨z1, z2⟩ := a5 q q1 q2
    obtain ⟨t1, t2⟩ := b4 q q1 q2
    obtain ⟨j1, j2⟩ := jI_q he a1 a2 a3 t1.1 t1.2.1 t1.2.2.I
    refine ⟨?_, j1.J⟩
    rw [z1, t2, ← t1.1 48 (by omega), ← t1.1 41 (by omega), lk_cn_congr q1 (ln_rows2 j2 j1.1.1 (z2.fm t1.1) t1.2.2)]
  · obtain ⟨t1, rfl⟩ := b3 hx
    exact ⟨by rw [a4 (fun z => hx ((pl_iff n24).mp z)), t1], (jI_q he a1 a2 a3 fm_rf me_rf (hm.fc a1)).1.J⟩
end PAIRS5
