/-! the class's rule: it reads static arrays -/
def ra_E (X : sw_X) (aL aM : Nat) (s : State) : Prop := st_Z aL (sw_A X s.heap.size) "RULE_LEAST" rl_L s s.heap ∧ st_Z aM (sw_A X s.heap.size) "RULE_MOST" rl_M s s.heap
def rl_s (i : Nat) : Nat := if i = 3 then 3 else if i = 2 then 2 else 1
theorem ru_i {i : Nat} {y : Int32} (hi : i < 4) : ru_ok (nI i) y ↔ rl_L i ≤ y ∧ y ≤ rl_M i := by
  have h : ∀ a b : Nat, a < 4 → b < 4 → a ≠ b → ¬ nI a = nI b := fun a b ha hb hab e => hab (by rw [nI_eq (by omega) (by omega)] at e; exact e)
  unfold ru_ok
  rcases (show i = 0 ∨ i = 1 ∨ i = 2 ∨ i = 3 by omega) with rfl | rfl | rfl | rfl
  · exact ⟨fun z => z.elim (fun y => y.2) (fun z => z.elim (fun y => absurd y.1 (h 0 1 (by omega) (by omega) (by omega))) (fun z => z.elim (fun y => absurd y.1 (h 0 2 (by omega) (by omega) (by omega))) (fun y => absurd y.1 (h 0 3 (by omega) (by omega) (by omega))))), fun y => Or.inl ⟨rfl, y⟩⟩
  · exact ⟨fun z => z.elim (fun y => absurd y.1 (h 1 0 (by omega) (by omega) (by omega))) (fun z => z.elim (fun y => y.2) (fun z => z.elim (fun y => absurd y.1 (h 1 2 (by omega) (by omega) (by omega))) (fun y => absurd y.1 (h 1 3 (by omega) (by omega) (by omega))))), fun y => Or.inr (Or.inl ⟨rfl, y⟩)⟩
  · exact ⟨fun z => z.elim (fun y => absurd y.1 (h 2 0 (by omega) (by omega) (by omega))) (fun z => z.elim (fun y => absurd y.1 (h 2 1 (by omega) (by omega) (by omega))) (fun z => z.elim (fun y => y.2) (fun y => absurd y.1 (h 2 3 (by omega) (by omega) (by omega))))), fun y => Or.inr (Or.inr (Or.inl ⟨rfl, y⟩))⟩
  · exact ⟨fun z => z.elim (fun y => absurd y.1 (h 3 0 (by omega) (by omega) (by omega))) (fun z => z.elim (fun y => absurd y.1 (h 3 1 (by omega) (by omega) (by omega))) (fun z => z.elim (fun y => absurd y.1 (h 3 2 (by omega) (by omega) (by omega))) (fun y => y.2))), fun y => Or.inr (Or.inr (Or.inr ⟨rfl, y⟩))⟩
section CRULE
variable {X : sw_X} {σ τ u : sw_Sg} {x y v w st what : Int32} {n a b c sea g br wn k s M p m aL aM : Nat}
theorem C_X7_rule (hk : σ 0 8 = nI k) (k4 : k ≤ 4) :
    sw_ME X 2 (ra_E X aL aM) mX7_rule [.ref (sw_ad X 0), .int what, .int y] σ (sw_Ri (fun v u => (¬ ru_ok what y → v = -2 ∧ u = σ) ∧ (ru_ok what y → ∃ i : Nat, i < 4 ∧ what = nI i ∧ v = σ 33 i ∧ u = sw_up (sw_up σ 33 i y) 0 8 (nI (min k (rl_s i)))))) := by
  refine sw_ME.ofF (by decide +kernel) rfl (Nat.le_of_ble_eq_true rfl) rfl ?_
  have hL : ∀ s : State, ra_E X aL aM s → st_Z aL (sw_A X s.heap.size) "RULE_LEAST" rl_L s s.heap := fun s h => h.1
  have hM : ∀ s : State, ra_E X aL aM s → st_Z aM (sw_A X s.heap.size) "RULE_MOST" rl_M s s.heap := fun s h => h.2
  have W := wi_N (x := what) (lo := 0) (hi := 3) (by omega) (by omega)
  by_cases hw : ∃ i, i < 4 ∧ what = nI i
  · obtain ⟨i, i4, rfl⟩ := hw
    by_cases ok : rl_L i ≤ y ∧ y ≤ rl_M i
    · have es : (if nI i = 3 then (3 : Int32) else if nI i = 2 then 2 else 1) = nI (rl_s i) := by
        rcases (show i = 0 ∨ i = 1 ∨ i = 2 ∨ i = 3 by omega) with rfl | rfl | rfl | rfl <;> decide
      have s3 : rl_s i ≤ 3 := by unfold rl_s; split <;> (try split) <;> omega
      refine SW.iload_n (q := 1) (i := 1) dX7_rule_0 rfl rfl rfl ?_
      refine SW.iconst (q := 2) (v := 0) dX7_rule_1 (by decide) rfl ?_
      refine SW.iconst (q := 3) (v := 3) dX7_rule_2 (by decide) rfl ?_
      refine SW.sF (q := 6) (C_X7_within) vX7_82 (by decide) rfl rfl (Nat.le_of_ble_eq_true rfl) dX7_rule_3 rfl ?_
      refine SW.if_eq (q := 9) (tgt := 26) dX7_rule_6 (by decide) rfl (fun c6 => absurd c6 ((W.mpr ⟨i, by omega, by omega, rfl⟩))) (fun _ => ?_)
      refine SW.iload_n (q := 10) (i := 2) dX7_rule_9 rfl rfl rfl ?_
      refine SW.gets (q := 13) hL sl_LEAST dX7_rule_10 rfl ?_
      refine SW.iload_n (q := 14) (i := 1) dX7_rule_13 rfl rfl rfl ?_
      refine SW.sldN (q := 15) (k := i) hL (rfl) (i4) dX7_rule_14 rfl ?_
      refine SW.gets (q := 18) hM sl_MOST dX7_rule_15 rfl ?_
      refine SW.iload_n (q := 19) (i := 1) dX7_rule_18 rfl rfl rfl ?_
      refine SW.sldN (q := 20) (k := i) hM (rfl) (i4) dX7_rule_19 rfl ?_
      refine SW.sF (q := 23) (C_X7_within) vX7_82 (by decide) rfl rfl (Nat.le_of_ble_eq_true rfl) dX7_rule_20 rfl ?_
      refine SW.if_ne (q := 26) (tgt := 29) dX7_rule_23 (by decide) rfl (fun _ => ?_) (fun c23 => absurd c23 ((sw_wi_1 ok.1 ok.2)))
      refine SW.aload_n (q := 30) (i := 0) dX7_rule_29 rfl rfl rfl ?_
      refine SW.getR (q := 33) (i := 0) (j := 7) fX7_56 rfl rfl dX7_rule_30 rfl ?_
      refine SW.iload_n (q := 34) (i := 1) dX7_rule_33 rfl rfl rfl ?_
      refine SW.cF (q := 37) (C_X3_atn (i := 7) (j := 33) (n := 4) rfl rfl (k := i) rfl i4) vX7_119 (by decide) rfl rfl rfl rfl (Nat.le_of_ble_eq_true rfl) dX7_rule_34 rfl ?_
      refine SW.istore_n (q := 38) (i := 3) dX7_rule_37 rfl (by decide) rfl ?_
      refine SW.aload_n (q := 39) (i := 0) dX7_rule_38 rfl rfl rfl ?_
      refine SW.getR (q := 42) (i := 0) (j := 7) fX7_56 rfl rfl dX7_rule_39 rfl ?_
      refine SW.iload_n (q := 43) (i := 1) dX7_rule_42 rfl rfl rfl ?_
      refine SW.iload_n (q := 44) (i := 2) dX7_rule_43 rfl rfl rfl ?_
      refine SW.cG (q := 47) (C_X3_putn (i := 7) (j := 33) (n := 4) rfl rfl (k := i) rfl i4) vX7_71 (by decide) rfl rfl rfl rfl (Nat.le_of_ble_eq_true rfl) dX7_rule_44 rfl ?_
      refine SW.aload_n (q := 48) (i := 0) dX7_rule_47 rfl rfl rfl ?_
      refine SW.iload_n (q := 49) (i := 1) dX7_rule_48 rfl rfl rfl ?_
      refine SW.sF (q := 52) (C_X7_stageAhead) vX7_135 (by decide) rfl rfl (Nat.le_of_ble_eq_true rfl) dX7_rule_49 rfl ?_
      refine SW.cG (q := 55) (C_X7_keepUpTo) vX7_78 (by decide) rfl rfl rfl rfl (Nat.le_of_ble_eq_true rfl) dX7_rule_52 rfl ?_
      refine SW.iload_n (q := 56) (i := 3) dX7_rule_55 rfl rfl rfl ?_
      refine SW.iretR rfl rfl dX7_rule_56 ?_
      refine ⟨fun z => absurd ((ru_i i4).mpr ok) z, fun _ => ⟨i, i4, rfl, rfl, ?_⟩⟩
      rw [es, sw_un (by decide), hk, sw_min_N (by omega) (by omega)]
    · refine SW.iload_n (q := 1) (i := 1) dX7_rule_0 rfl rfl rfl ?_
      refine SW.iconst (q := 2) (v := 0) dX7_rule_1 (by decide) rfl ?_
      refine SW.iconst (q := 3) (v := 3) dX7_rule_2 (by decide) rfl ?_
      refine SW.sF (q := 6) (C_X7_within) vX7_82 (by decide) rfl rfl (Nat.le_of_ble_eq_true rfl) dX7_rule_3 rfl ?_
      refine SW.if_eq (q := 9) (tgt := 26) dX7_rule_6 (by decide) rfl (fun c6 => absurd c6 ((W.mpr ⟨i, by omega, by omega, rfl⟩))) (fun _ => ?_)
      refine SW.iload_n (q := 10) (i := 2) dX7_rule_9 rfl rfl rfl ?_
      refine SW.gets (q := 13) hL sl_LEAST dX7_rule_10 rfl ?_
      refine SW.iload_n (q := 14) (i := 1) dX7_rule_13 rfl rfl rfl ?_
      refine SW.sldN (q := 15) (k := i) hL (rfl) (i4) dX7_rule_14 rfl ?_
      refine SW.gets (q := 18) hM sl_MOST dX7_rule_15 rfl ?_
      refine SW.iload_n (q := 19) (i := 1) dX7_rule_18 rfl rfl rfl ?_
      refine SW.sldN (q := 20) (k := i) hM (rfl) (i4) dX7_rule_19 rfl ?_
      refine SW.sF (q := 23) (C_X7_within) vX7_82 (by decide) rfl rfl (Nat.le_of_ble_eq_true rfl) dX7_rule_20 rfl ?_
      refine SW.if_ne (q := 26) (tgt := 29) dX7_rule_23 (by decide) rfl (fun c23 => absurd ((sw_wi_0 ok)) c23) (fun _ => ?_)
      refine SW.bipush (q := 28) (v := (-2)) dX7_rule_26 (by decide) rfl ?_
      refine SW.iretR rfl rfl dX7_rule_28 ?_
      exact ⟨fun _ => ⟨rfl, rfl⟩, fun z => absurd ((ru_i i4).mp z) ok⟩
  · refine SW.iload_n (q := 1) (i := 1) dX7_rule_0 rfl rfl rfl ?_
    refine SW.iconst (q := 2) (v := 0) dX7_rule_1 (by decide) rfl ?_
    refine SW.iconst (q := 3) (v := 3) dX7_rule_2 (by decide) rfl ?_
    refine SW.sF (q := 6) (C_X7_within) vX7_82 (by decide) rfl rfl (Nat.le_of_ble_eq_true rfl) dX7_rule_3 rfl ?_
    refine SW.if_eq (q := 9) (tgt := 26) dX7_rule_6 (by decide) rfl (fun _ => ?_) (fun c6 => absurd ((Classical.byContradiction fun z => hw (by obtain ⟨j, _, j2, j3⟩ := W.mp z; exact ⟨j, by omega, j3⟩))) c6)
    refine SW.bipush (q := 28) (v := (-2)) dX7_rule_26 (by decide) rfl ?_
    refine SW.iretR rfl rfl dX7_rule_28 ?_
    refine ⟨fun _ => ⟨rfl, rfl⟩, fun z => absurd ?_ hw⟩
    rcases z with z | z | z | z
    · exact ⟨0, by omega, z.1⟩
    · exact ⟨1, by omega, z.1⟩
    · exact ⟨2, by omega, z.1⟩
    · exact ⟨3, by omega, z.1⟩
theorem rl_N {i : Nat} (hi : i < 4) (h : rl_L i ≤ y ∧ y ≤ rl_M i) : ∃ t : Nat, y = nI t ∧ (i = 0 → t ≤ 255) ∧ (i = 2 → 1 ≤ t ∧ t ≤ 12) ∧ (i = 3 → t ≤ 100) := by
  have h1 := i_le.mp h.1
  have h2 := i_le.mp h.2
  have b : 0 ≤ y.toInt ∧ (i = 0 → y.toInt ≤ 255) ∧ (i = 2 → 1 ≤ y.toInt ∧ y.toInt ≤ 12) ∧ (i = 3 → y.toInt ≤ 100) := by
    rcases (show i = 0 ∨ i = 1 ∨ i = 2 ∨ i = 3 by omega) with rfl | rfl | rfl | rfl
    · have e1 : (rl_L 0).toInt = 0 := by decide
      have e2 : (rl_M 0).toInt = 255 := by decide
      omega
    · have e1 : (rl_L 1).toInt = 2 := by decide
      have e2 : (rl_M 1).toInt = 200 := by decide
      omega
    · have e1 : (rl_L 2).toInt = 1 := by decide
      have e2 : (rl_M 2).toInt = 12 := by decide
      omega
    · have e1 : (rl_L 3).toInt = 0 := by decide
      have e2 : (rl_M 3).toInt = 100 := by decide
      omega
  have hlt := Int32.toInt_lt y
  refine ⟨y.toInt.toNat, ?_, fun z => ?_, fun z => ?_, fun z => ?_⟩
  · apply Int32.toInt_inj.mp
    rw [nI_toInt (by omega)]
    omega
  · have := b.2.1 z; omega
  · have := b.2.2.1 z; omega
  · have := b.2.2.2 z; omega
theorem cs_2.r (z : cs_2 n a b c sea τ) (h33 : u 33 1 = τ 33 1) (hf : fr_ [0, 33] τ u) : cs_2 n a b c sea u := by
  unfold cs_2 ww_F lg_F
  rw [h33, hf 1 (by decide), hf 3 (by decide), hf 34 (by decide), hf 35 (by decide), hf 36 (by decide), hf 40 (by decide), hf 41 (by decide), hf 42 (by decide), hf 43 (by decide), hf 44 (by decide), hf 45 (by decide), hf 48 (by decide), hf 49 (by decide), hf 50 (by decide)]
  exact z
/-- after a rule: the class's numbers -/
theorem cI_rule {i : Nat} (hI : cI_ n a b c sea g br wn k σ) (hi : i < 4) (hy : rl_L i ≤ y ∧ y ≤ rl_M i) (hu : u = sw_up (sw_up σ 33 i y) 0 8 (nI (min k (rl_s i)))) {t : Nat} (ht : y = nI t) (t0 : i = 0 → t ≤ 255) (t2 : i = 2 → 1 ≤ t ∧ t ≤ 12) (t3 : i = 3 → t ≤ 100) :
    cI_ n a b c (if i = 0 then t else sea) (if i = 2 then t else g) (if i = 3 then t else br) wn (min k (rl_s i)) u := by
  obtain ⟨⟨q1, q2, q3, ⟨p1, p2, p3, p4, p5, p6, p7⟩, q5, q6⟩, hk, k4, c1, c2, c3, -⟩ := hI
  have hf : fr_ [0, 33] σ u := by rw [hu]; exact fr_up (fr_up fr_rf (by decide)) (by decide)
  have r33 : ∀ j, j ≠ i → u 33 j = σ 33 j := fun j hj => by rw [hu, sw_un (by decide), sw_o1 hj]
  have e33 : u 33 i = y := by rw [hu, sw_un (by decide), sw_i1]
  have e08 : u 0 8 = nI (min k (rl_s i)) := by rw [hu, sw_i1]
  have e07 : u 0 7 = σ 0 7 := by rw [hu, sw_o1 (by decide), sw_un (by decide)]
  have s3 : rl_s i ≤ 3 := by unfold rl_s; split <;> (try split) <;> omega
  refine ⟨⟨?_, ?_, ?_, ⟨?_, ?_, ?_, ?_, ?_, ?_, ?_⟩, ?_, q6⟩, e08, by omega, fun z => ?_, fun z => ?_, fun z => ?_, fun z => by omega⟩
  · rw [hf 1 (by decide)]; exact q1
  · rw [hf 1 (by decide)]; exact q2
  · unfold gr_chs; rw [hf 1 (by decide), hf 34 (by decide), hf 35 (by decide)]; exact q3
  · by_cases h : i = 0
    · rw [if_pos h, ← h, e33, ht]
    · rw [if_neg h, r33 0 (by omega)]; exact p1
  · by_cases h : i = 0
    · rw [if_pos h]; exact t0 h
    · rw [if_neg h]; exact p2
  · by_cases h : i = 2
    · rw [if_pos h, ← h, e33, ht]
    · rw [if_neg h, r33 2 (by omega)]; exact p3
  · by_cases h : i = 2
    · rw [if_pos h]; exact (t2 h).2
    · rw [if_neg h]; exact p4
  · by_cases h : i = 2
    · rw [if_pos h]; exact (t2 h).1
    · rw [if_neg h]; exact p5
  · by_cases h : i = 3
    · rw [if_pos h, ← h, e33, ht]
    · rw [if_neg h, r33 3 (by omega)]; exact p6
  · by_cases h : i = 3
    · rw [if_pos h]; exact t3 h
    · rw [if_neg h]; exact p7
  · rw [e07]; exact q5
  · exact (c1 (by omega)).fr hf (by decide) (by decide) (by decide) (by decide)
  · have hs : 2 ≤ rl_s i := by omega
    have h23 : i = 2 ∨ i = 3 := by
      unfold rl_s at hs
      split at hs
      · omega
      · split at hs <;> omega
    rw [if_neg (show ¬ i = 0 by omega)]
    exact (c2 (by omega)).r (r33 1 (by omega)) hf
  · have hs : 3 ≤ rl_s i := by omega
    have h3 : i = 3 := by
      unfold rl_s at hs
      split at hs
      · omega
      · split at hs <;> omega
    rw [if_neg (show ¬ i = 2 by omega)]
    exact (c3 (by omega)).fr hf (by decide)
/-- after a rule: the reference's numbers -/
theorem mI_rule {i : Nat} (hI : mI_ n a b c sea g br wn σ) (hi : i < 4) (hu : u = sw_up (sw_up σ 60 i y) 59 10 0) {t : Nat} (ht : y = nI t) (t0 : i = 0 → t ≤ 255) (t2 : i = 2 → 1 ≤ t ∧ t ≤ 12) (t3 : i = 3 → t ≤ 100) :
    mI_ n a b c (if i = 0 then t else sea) (if i = 2 then t else g) (if i = 3 then t else br) wn u := by
  obtain ⟨⟨q1, q2, q3, ⟨p1, p2, p3, p4, p5, p6, p7⟩, q5, q6⟩, -⟩ := hI
  have r59 : ∀ j, j ≠ 10 → u 59 j = σ 59 j := fun j hj => by rw [hu, sw_o1 hj, sw_un (by decide)]
  have r60 : ∀ j, j ≠ i → u 60 j = σ 60 j := fun j hj => by rw [hu, sw_un (by decide), sw_o1 hj]
  have e60 : u 60 i = y := by rw [hu, sw_un (by decide), sw_i1]
  have hf : fr_ [59, 60] σ u := by rw [hu]; exact fr_up (fr_up fr_rf (by decide)) (by decide)
  refine mI_0 ⟨?_, ?_, ?_, ⟨?_, ?_, ?_, ?_, ?_, ?_, ?_⟩, ?_, q6⟩ (by rw [hu, sw_i1])
  · rw [r59 1 (by decide)]; exact q1
  · rw [r59 2 (by decide), r59 3 (by decide)]; exact q2
  · unfold gr_chs; rw [r59 6 (by decide), hf 61 (by decide), hf 62 (by decide)]; exact q3
  · by_cases h : i = 0
    · rw [if_pos h, ← h, e60, ht]
    · rw [if_neg h, r60 0 (by omega)]; exact p1
  · by_cases h : i = 0
    · rw [if_pos h]; exact t0 h
    · rw [if_neg h]; exact p2
  · by_cases h : i = 2
    · rw [if_pos h, ← h, e60, ht]
    · rw [if_neg h, r60 2 (by omega)]; exact p3
  · by_cases h : i = 2
    · rw [if_pos h]; exact (t2 h).2
    · rw [if_neg h]; exact p4
  · by_cases h : i = 2
    · rw [if_pos h]; exact (t2 h).1
    · rw [if_neg h]; exact p5
  · by_cases h : i = 3
    · rw [if_pos h, ← h, e60, ht]
    · rw [if_neg h, r60 3 (by omega)]; exact p6
  · by_cases h : i = 3
    · rw [if_pos h]; exact t3 h
    · rw [if_neg h]; exact p7
  · rw [r59 5 (by decide)]; exact q5
/-- BOTH at once: rule -/
theorem P_rule (h : J_ σ) : ∃ (RC : Int32 → sw_Sg → Prop), sw_ME X 2 (ra_E X aL aM) mX7_rule [.ref (sw_ad X 0), .int what, .int y] σ (sw_Ri RC) ∧ ∀ v1 u, RC v1 u → ∃ (d2 : Nat) (RM : Int32 → sw_Sg → Prop), d2 ≤ 6 ∧ sw_Mi X d2 mX8_rule [.ref (sw_ad X 59), .int what, .int y] u RM ∧ ∀ v2 w, RM v2 w → v1 = v2 ∧ J_ w := by
  obtain ⟨n, a, b, c, sea, g, br, wn, k, hc, hm, he⟩ := h
  refine ⟨_, C_X7_rule hc.2.1 hc.2.2.1, ?_⟩
  rintro v1 u ⟨a1, a2⟩
  have hfc : fc_ σ u := by
    by_cases ok : ru_ok what y
    · obtain ⟨i, i4, hi, hv, hu⟩ := a2 ok
      intro j hj
      rw [hu, sw_un (by omega), sw_un (by omega)]
    · obtain ⟨-, rfl⟩ := a1 ok
      exact fc_rf
  refine ⟨1, _, by omega, C_X8_rule (hm.fc hfc), ?_⟩
  rintro v2 w ⟨b1, b2⟩
  by_cases ok : ru_ok what y
  · obtain ⟨i, i4, rfl, hv, hu⟩ := a2 ok
    obtain ⟨i', i4', hi', hv', hw⟩ := b2 ok
    obtain rfl : i = i' := by rw [nI_eq (by omega) (by omega)] at hi'; exact hi'
    have hy := (ru_i i4).mp ok
    obtain ⟨t, ht, t0, t2, t3⟩ := rl_N i4 hy
    have c' := cI_rule hc i4 hy hu ht t0 t2 t3
    have m' := mI_rule (hm.fc hfc) i4 hw ht t0 t2 t3
    have e60 : u 60 = σ 60 := hfc 60 (by omega)
    refine ⟨?_, (show jI_ _ _ _ _ _ _ _ _ _ w from ⟨c'.fm (fun j hj => by rw [hw, sw_un (by omega), sw_un (by omega)]), m', ?_, ?_, fun j hj => ?_⟩).J⟩
    · rw [hv, hv', e60]
      rcases (show i = 0 ∨ i = 1 ∨ i = 2 ∨ i = 3 by omega) with rfl | rfl | rfl | rfl
      · rw [hc.1.2.2.2.1.1, hm.1.2.2.2.1.1]
      · exact he.2.1
      · rw [hc.1.2.2.2.1.2.2.1, hm.1.2.2.2.1.2.2.1]
      · rw [hc.1.2.2.2.1.2.2.2.2.2.1, hm.1.2.2.2.1.2.2.2.2.2.1]
    · rw [hw, sw_un (by decide), sw_un (by decide), sw_o1 (by decide), sw_un (by decide), hu, sw_un (by decide), sw_un (by decide), sw_un (by decide), sw_un (by decide)]
      exact he.1
    · rw [hw, sw_un (by decide), sw_un (by decide), sw_un (by decide), hu, sw_un (by decide)]
      by_cases h1 : i = 1
      · subst h1
        rw [sw_i1, sw_i1]
      · rw [sw_o1 (by omega), sw_o1 (by omega), sw_un (by decide), sw_un (by decide)]
        exact he.2.1
    · rw [hw, sw_un (by decide), sw_un (by decide), sw_un (by decide), sw_un (by decide), sw_un (by decide), sw_un (by decide), sw_un (by decide), sw_un (by decide), sw_un (by decide), sw_un (by decide), sw_un (by decide), sw_un (by decide), hu]
      rw [sw_un (by decide), sw_un (by decide), sw_un (by decide), sw_un (by decide), sw_un (by decide), sw_un (by decide), sw_un (by decide), sw_un (by decide), sw_un (by decide), sw_un (by decide), sw_un (by decide), sw_un (by decide)]
      exact he.2.2 j hj
  · obtain ⟨z1, rfl⟩ := a1 ok
    obtain ⟨t1, rfl⟩ := b1 ok
    exact ⟨by rw [z1, t1], (show jI_ n a b c sea g br wn k _ from ⟨hc, hm, he⟩).J⟩
end CRULE
