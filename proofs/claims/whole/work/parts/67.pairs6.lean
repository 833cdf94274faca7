/-! BOTH at once, method by method: the rest but rule -/
section PAIRS6
variable {X : sw_X} {σ τ u w : sw_Sg} {n a b c sea g br wn k : Nat} {x y z what v1 v2 : Int32}
theorem P_about (h : J_ σ) : pr_ X mX7_about mX8_about [.int x, .int what] σ := by
  obtain ⟨n, a, b, c, sea, g, br, wn, k, hc, hm, he⟩ := h
  have n24 := hc.1.1.2.1
  refine ⟨6, _, by omega, C_X7_about hc, ?_⟩
  rintro v1 u ⟨a1, a2, M, a3, a4, a5⟩
  refine ⟨5, _, by omega, C_X8_about (hm.fc a1), ?_⟩
  rintro v2 w ⟨b3, b4⟩
  by_cases hx : ∃ q, q < n * n ∧ x = nI q
  · obtain ⟨q, q1, q2⟩ := hx
    obtain ⟨z1, z2⟩ := a5 q q1 q2
    obtain ⟨t1, t2, t3⟩ := b4 q q1 q2
    obtain ⟨e, j⟩ := E_about he a1 a2 a3 z2 q1 z1 t1 t2 t3
    exact ⟨e, j.J⟩
  · obtain ⟨t1, rfl⟩ := b3 hx
    exact ⟨by rw [a4 (fun z => hx ((pl_iff n24).mp z)), t1], (jI_q he a1 a2 a3 fm_rf me_rf (hm.fc a1)).1.J⟩
theorem P_is (h : J_ σ) : pr_ X mX7_is mX8_is [.int x] σ := by
  obtain ⟨n, a, b, c, sea, g, br, wn, k, hc, hm, he⟩ := h
  have n24 := hc.1.1.2.1
  refine ⟨6, _, by omega, C_X7_is hc, ?_⟩
  rintro v1 u ⟨a1, a2, M, a3, a4, a5⟩
  refine ⟨5, _, by omega, C_X8_is (hm.fc a1), ?_⟩
  rintro v2 w ⟨b3, b4⟩
  by_cases hx : ∃ q, q < n * n ∧ x = nI q
  · obtain ⟨q, q1, q2⟩ := hx
    obtain ⟨z1, z2⟩ := a5 q q1 q2
    obtain ⟨t1, t2⟩ := b4 q q1 q2
    obtain ⟨e, j⟩ := E_is he a1 a2 a3 z2 q1 z1 t1 t2
    exact ⟨e, j.J⟩
  · obtain ⟨t1, rfl⟩ := b3 hx
    exact ⟨by rw [a4 (fun z => hx ((pl_iff n24).mp z)), t1], (jI_q he a1 a2 a3 fm_rf me_rf (hm.fc a1)).1.J⟩
theorem P_roads (h : J_ σ) : pr_ X mX7_roads mX8_roads [.int x] σ := by
  obtain ⟨n, a, b, c, sea, g, br, wn, k, hc, hm, he⟩ := h
  have n24 := hc.1.1.2.1
  refine ⟨6, _, by omega, C_X7_roads hc, ?_⟩
  rintro v1 u ⟨a1, a2, M, a3, a4, a5⟩
  refine ⟨5, _, by omega, C_X8_roads (hm.fc a1), ?_⟩
  rintro v2 w ⟨b3, b4⟩
  by_cases hx : ∃ q, q < n * n ∧ x = nI q
  · obtain ⟨q, q1, q2⟩ := hx
    obtain ⟨z1, z2⟩ := a5 q q1 q2
    obtain ⟨t1, t2⟩ := b4 q q1 q2
    obtain ⟨e, j⟩ := E_roads he a1 a2 a3 z2 q1 z1 t1 t2
    exact ⟨e, j.J⟩
  · obtain ⟨t1, rfl⟩ := b3 hx
    exact ⟨by rw [a4 (fun z => hx ((pl_iff n24).mp z)), t1], (jI_q he a1 a2 a3 fm_rf me_rf (hm.fc a1)).1.J⟩
theorem P_many (h : J_ σ) : pr_ X mX7_many mX8_many [.int what] σ := by
  obtain ⟨n, a, b, c, sea, g, br, wn, k, hc, hm, he⟩ := h
  refine ⟨6, _, by omega, C_X7_many hc, ?_⟩
  rintro v1 u ⟨a1, a2, M, a3, a4, a5⟩
  refine ⟨5, _, by omega, C_X8_many (hm.fc a1), ?_⟩
  rintro v2 w ⟨b3, b4⟩
  by_cases hx : bc_ok what
  · obtain ⟨z1, z2⟩ := a5 hx
    obtain ⟨t1, t2⟩ := b4 hx
    obtain ⟨j1, j2⟩ := jI_q he a1 a2 a3 t1.1 t1.2.1 t1.2.2.I
    refine ⟨?_, j1.J⟩
    rw [z2, t2]
    refine congrArg nI (lk_n_c _ (fun q hq => ?_))
    have e2 := (ln_over j2 (cI_4 j1.1 z1) t1.2.2 q hq).2
    have eL := ct_m (n := n) (g := g) (wn := wn) t1.1
    rw [← e2, t1.1 48 (by omega), t1.1 55 (by omega)]
    unfold sg_
    rw [eL]
  · obtain ⟨t1, rfl⟩ := b3 hx
    exact ⟨by rw [a4 hx, t1], (jI_q he a1 a2 a3 fm_rf me_rf (hm.fc a1)).1.J⟩
theorem P_towns (h : J_ σ) : pr_ X mX7_towns mX8_towns [.int x] σ := by
  obtain ⟨n, a, b, c, sea, g, br, wn, k, hc, hm, he⟩ := h
  refine ⟨6, _, by omega, C_X7_towns hc, ?_⟩
  rintro v1 u ⟨a1, a2, a3, a4⟩
  refine ⟨5, _, by omega, C_X8_towns (hm.fc a1), ?_⟩
  rintro v2 w ⟨b3, b4⟩
  by_cases hx : ∃ i, i ≤ 6 ∧ x = nI i
  · obtain ⟨i, i1, i2⟩ := hx
    obtain ⟨z1, z2⟩ := a4 i i1 i2
    obtain ⟨t1, t2⟩ := b4 i i1 i2
    obtain ⟨e, j⟩ := E_towns he a1 a2 z2 z1 t1 t2
    exact ⟨e, j.J⟩
  · obtain ⟨z1, z2⟩ := a3 hx
    obtain ⟨t1, rfl⟩ := b3 hx
    exact ⟨by rw [z1, t1], (jI_q he a1 a2 z2 fm_rf me_rf (hm.fc a1)).1.J⟩
theorem P_town (h : J_ σ) : pr_ X mX7_town mX8_town [.int x] σ := by
  obtain ⟨n, a, b, c, sea, g, br, wn, k, hc, hm, he⟩ := h
  refine ⟨6, _, by omega, C_X7_town hc, ?_⟩
  rintro v1 u ⟨a1, a2, M, a3, M3, a4, a5⟩
  refine ⟨6, _, by omega, C_X8_town (hm.fc a1), ?_⟩
  rintro v2 w ⟨b1, b4, b5⟩
  obtain ⟨j1, j2⟩ := jI_q he a1 a2 a3 b1.1 b1.2.1 b1.2.2.I
  refine ⟨?_, j1.J⟩
  have eL := (ct_m (n := n) (g := g) (wn := wn) b1.1).symm.trans (ln_L j2 j1.1 (by omega) b1.2.2).2
  rw [eL] at a4 a5
  by_cases hx : ∃ i, i < (ct_L n g wn 64 70 69 w).length ∧ x = nI i
  · obtain ⟨i, i1, i2⟩ := hx
    rw [a5 i i1 i2, b5 i i1 i2]
  · rw [a4 hx, b4 hx]
/-- one town's costs are the same -/
theorem ln_D (e : eq2_ c w w) (hc : cI_ n a b c sea g br wn 4 w) (hm : mL_ n a b c sea g br wn w) {h h' : Nat → Nat} {j : Nat} {d d' : Nat → Option Nat} (hj : j < (ct_L n g wn 64 70 69 w).length)
    (x1 : ∀ p, p < n * n → w 40 p = nI (h p) ∧ h p ≤ 400) (x2 : nt_ok n h (w 48) br (ct_p (ct_L n g wn 64 70 69 w) j) d) (y1 : ∀ p, p < n * n → w 64 p = nI (h' p) ∧ h' p ≤ 400) (y2 : nt_ok n h' (w 70) br (ct_p (ct_L n g wn 64 70 69 w) j) d') : d = d' ∧ ∀ p, p < n * n → h p = h' p ∧ w 48 p = w 70 p := by
  have r := ln_rows e hc (by omega) hm
  have eh : ∀ p, p < n * n → h p = h' p ∧ w 48 p = w 70 p := fun p hp => by
    refine ⟨?_, (r p hp).2.2.2.2.2⟩
    have := (r p hp).1
    rw [(x1 p hp).1, (y1 p hp).1, nI_eq (by have := (x1 p hp).2; omega) (by have := (y1 p hp).2; omega)] at this
    exact this
  exact ⟨nt_one (nt_ok_congr ((mL_L hm).2.2 j hj).2.1 eh x2) y2, eh⟩
theorem P_cost (h : J_ σ) : pr_ X mX7_cost mX8_cost [.int x, .int y] σ := by
  obtain ⟨n, a, b, c, sea, g, br, wn, k, hc, hm, he⟩ := h
  refine ⟨6, _, by omega, C_X7_cost hc, ?_⟩
  rintro v1 u ⟨a1, a2, a3, a4, a5⟩
  refine ⟨6, _, by omega, C_X8_cost (hm.fc a1), ?_⟩
  rintro v2 w ⟨b1, b4, b5⟩
  obtain ⟨j1, j2⟩ := jI_q he a1 a2 a3 b1.1 b1.2.1 b1.2.2.I
  refine ⟨?_, j1.J⟩
  have eL0 := (ln_L j2 j1.1 (by omega) b1.2.2).2
  have eL := (ct_m (n := n) (g := g) (wn := wn) b1.1).symm.trans eL0
  rw [eL] at a4 a5
  by_cases hx : (∃ i, i < (ct_L n g wn 64 70 69 w).length ∧ x = nI i) ∧ ∃ j, j < (ct_L n g wn 64 70 69 w).length ∧ y = nI j
  · obtain ⟨⟨i, i1, i2⟩, j, j3, j4⟩ := hx
    obtain ⟨h', d', y1, y2, y3⟩ := b5 i j i1 j3 i2 j4
    obtain ⟨hh, D, T, x1, x2⟩ := j1.1.2.2.2.2.2.2 (by omega)
    rw [eL0] at x2
    obtain ⟨ed, -⟩ := ln_D j2 j1.1 b1.2.2 j3 x1 (x2.1.1 j j3) y1 y2
    rw [a5 i j i1 j3 i2 j4, y3, ← b1.1 54 (by omega), x2.2.2.1 j j3 _ ((mL_L b1.2.2).2.2 i i1).2.1, ed]
  · rw [a4 hx, b4 hx]
theorem P_way (h : J_ σ) : pr_ X mX7_way mX8_way [.int x, .int y, .int z] σ := by
  obtain ⟨n, a, b, c, sea, g, br, wn, k, hc, hm, he⟩ := h
  refine ⟨6, _, by omega, C_X7_way hc, ?_⟩
  rintro v1 u ⟨a1, a2, a3, a4, a5⟩
  refine ⟨6, _, by omega, C_X8_way (hm.fc a1), ?_⟩
  rintro v2 w ⟨b1, b4, b5⟩
  obtain ⟨j1, j2⟩ := jI_q he a1 a2 a3 b1.1 b1.2.1 b1.2.2.I
  refine ⟨?_, j1.J⟩
  have eL0 := (ln_L j2 j1.1 (by omega) b1.2.2).2
  have eL := (ct_m (n := n) (g := g) (wn := wn) b1.1).symm.trans eL0
  rw [eL] at a4 a5
  by_cases hx : (∃ i, i < (ct_L n g wn 64 70 69 w).length ∧ x = nI i) ∧ ∃ j, j < (ct_L n g wn 64 70 69 w).length ∧ y = nI j
  · obtain ⟨⟨i, i1, i2⟩, j, j3, j4⟩ := hx
    obtain ⟨h', d', y1, y2, y3⟩ := b5 i j i1 j3 i2 j4
    obtain ⟨hh, d, x1, x2, x3⟩ := a5 i j i1 j3 i2 j4
    rw [← b1.1 48 (by omega)] at x2 x3
    obtain ⟨rfl, eh⟩ := ln_D j2 j1.1 b1.2.2 j3 (fun p hp => by rw [b1.1 40 (by omega)]; exact x1 p hp) x2 y1 y2
    rw [x3, y3, wy_N (P := n * n) (fun a ha => nx_congr ha eh 4) nx_lt _ _ (fun q e => by cases e; exact ((mL_L b1.2.2).2.2 i i1).2.1)]
  · rw [a4 hx, b4 hx]
theorem P_net (h : J_ σ) : pr_ X mX7_net mX8_net [.int what] σ := by
  obtain ⟨n, a, b, c, sea, g, br, wn, k, hc, hm, he⟩ := h
  refine ⟨6, _, by omega, C_X7_net hc, ?_⟩
  rintro v1 u ⟨a1, a2, M, a3, a4, a5⟩
  refine ⟨5, _, by omega, C_X8_net (hm.fc a1), ?_⟩
  rintro v2 w ⟨b1, b4, b5⟩
  obtain ⟨j1, j2⟩ := jI_q he a1 a2 a3 b1.1 b1.2.1 b1.2.2.I
  refine ⟨?_, j1.J⟩
  by_cases hx : what < 0 ∨ 2 < what ∧ what < 10
  · rw [a4 hx, b4 hx]
  · obtain ⟨z1, z2⟩ := a5 hx
    obtain ⟨W, rfl, hW⟩ : ∃ W, what = nI W ∧ W < 2 ^ 31 := by
      have h1 := Int32.toInt_lt what
      have h0 : 0 ≤ what.toInt := i_le.mp (Int32.not_lt.mp (fun y => hx (Or.inl y)))
      refine ⟨what.toInt.toNat, ?_, by omega⟩
      apply Int32.toInt_inj.mp
      rw [nI_toInt (by omega)]
      omega
    have hr : W ≤ 2 ∨ 10 ≤ W := by
      rcases Nat.lt_or_ge 2 W with y | y
      · rcases Nat.lt_or_ge W 10 with t | t
        · exact absurd (Or.inr ⟨Int32.not_le.mp (nI_ge (a := 2) y (by omega)), Int32.not_le.mp (nI_ge (b := 10) t (by omega))⟩) hx
        · exact Or.inr t
      · exact Or.inl y
    obtain ⟨h', D', T', y1, y2, y3⟩ := b5 W hW rfl hr
    obtain ⟨hh, D, T, x1, x2, x3, x4, rfl⟩ := ln_netF j2 (cI_4 j1.1 z2) b1.2.2 y1 y2
    have Tk := (nj_R_I _ T y2.2).k
    have L6 := (mL_L b1.2.2).2.1
    rw [z1, y3, ← ln_nv x3.2.2.2.1 (by omega) hW hr]
    unfold nv_
    rw [b1.1 5 (by omega), b1.1 57 (by omega)]
theorem P_told (h : J_ σ) : pr_ X mX7_told mX8_told [.int what] σ := by
  obtain ⟨n, a, b, c, sea, g, br, wn, k, hc, hm, he⟩ := h
  refine ⟨6, _, by omega, C_X7_told hc, ?_⟩
  rintro v1 u ⟨a1, a2, M, a3, a4, a5⟩
  refine ⟨5, _, by omega, C_X8_told (hm.fc a1), ?_⟩
  rintro v2 w ⟨b1, b4⟩
  obtain ⟨j1, j2⟩ := jI_q he a1 a2 a3 b1.1 b1.2.1 b1.2.2.I
  refine ⟨?_, j1.J⟩
  have ev : v1 = td_ w what := by
    rw [a4]; unfold td_
    rw [b1.1 0 (by omega), b1.1 1 (by omega), b1.1 4 (by omega), b1.1 33 (by omega)]
  obtain ⟨⟨⟨-, -, p1, -⟩, ⟨p2, -, p3, -⟩, ⟨p4, -⟩, ⟨p5, -, p6, -, -, p7, -⟩, p8, -⟩, -⟩ := j1.1
  obtain ⟨⟨-, -, r1⟩, ⟨r2, -, r3, -⟩, ⟨r4, -⟩, ⟨r5, -, r6, -, -, r7, -⟩, r8, -⟩ := b1.2.2.1
  have e7 : what = 7 → w 4 2 = w 59 19 := fun e => by
    rw [(cI_L j1.1 (a5 e)).1, (mL_L b1.2.2).1, (ln_L j2 j1.1 (by have := a5 e; omega) b1.2.2).2]
  rw [ev, b4]
  unfold td_ md_
  rw [p1, p2, p3, p4, p5, p6, p7, p8, r1, r2, r3, r4, r5, r6, r7, r8, j2.1, j2.2.1]
  by_cases h7 : what = 7
  · rw [e7 h7]
  · rw [if_neg h7, if_neg h7]
end PAIRS6
