/-! the reference's own methods: what is set -/
section MSET
variable {X : sw_X} {σ τ u : sw_Sg} {x y v w st what : Int32} {n a b c sea g br wn k s M p : Nat} {L : List Nat}
theorem mI_0 (hK : mk_ n a b c sea g br wn τ) (h : τ 59 10 = 0) : mI_ n a b c sea g br wn τ := ⟨hK, Or.inl h⟩
theorem C_X8_seed (hI : mI_ n a b c sea g br wn σ) :
    sw_Mi X 0 mX8_seed [.ref (sw_ad X 59), .int x] σ (fun v u => fm_ σ u ∧ (u 59 0 = x ∧ u 60 1 = σ 60 1 ∧ u 61 = σ 61 ∧ u 62 = σ 62 ∧ u 63 = σ 63) ∧ mI_ n a b c sea g br wn u ∧ v = σ 59 0) := by
  obtain ⟨⟨q1, q2, ⟨q3, q4⟩, q5, q6⟩, -⟩ := hI
  refine sw_ME.ofF (by decide +kernel) rfl (Nat.le_of_ble_eq_true rfl) rfl ?_
  refine SW.aload_n (q := 1) (i := 0) dX8_seed_0 rfl rfl rfl ?_
  refine SW.getI (q := 4) (i := 59) fX8_73 rfl rfl dX8_seed_1 rfl ?_
  refine SW.istore_n (q := 5) (i := 2) dX8_seed_4 rfl (by decide) rfl ?_
  refine SW.aload_n (q := 6) (i := 0) dX8_seed_5 rfl rfl rfl ?_
  refine SW.iload_n (q := 7) (i := 1) dX8_seed_6 rfl rfl rfl ?_
  refine SW.putI (q := 10) (i := 59) pX8_73 rfl rfl dX8_seed_7 rfl ?_
  refine SW.aload_n (q := 11) (i := 0) dX8_seed_10 rfl rfl rfl ?_
  refine SW.iconst (q := 12) (v := 0) dX8_seed_11 (by decide) rfl ?_
  refine SW.put (q := 15) (i := 59) pX8_76 rfl rfl rfl rfl dX8_seed_12 rfl ?_
  refine SW.iload_n (q := 16) (i := 2) dX8_seed_15 rfl rfl rfl ?_
  refine SW.iretR rfl rfl dX8_seed_16 ?_
  have f0 : fr_ [59] σ (sw_up (sw_up σ 59 0 x) 59 10 0) := fr_up (fr_up fr_rf (by decide)) (by decide)
  have s0 : fs_ [0, 10] σ (sw_up (sw_up σ 59 0 x) 59 10 0) := fs_ups (fs_ups fs_rf (by decide)) (by decide)
  refine ⟨fm_fr f0 (by decide), ⟨by rw [sw_o1 (by decide), sw_i1], by rw [f0 60 (by decide)], f0 61 (by decide), f0 62 (by decide), f0 63 (by decide)⟩, mI_0 ?_ sw_i1, rfl⟩
  exact mk_.fr ⟨q1, q2, ⟨q3, q4⟩, q5, q6⟩ f0 s0 (by decide) (by decide)
theorem C_X8_size (hI : mI_ n a b c sea g br wn σ) :
    sw_Mi X 1 mX8_size [.ref (sw_ad X 59), .int x] σ (fun v u => fm_ σ u ∧ me_ σ u ∧ ((¬ ∃ i, 4 ≤ i ∧ i ≤ 24 ∧ x = nI i) → v = -2 ∧ u = σ) ∧ ∀ i, 4 ≤ i → i ≤ 24 → x = nI i → v = nI n ∧ mI_ i a b c sea g br wn u) := by
  obtain ⟨⟨⟨n4, n24, q1⟩, q2, ⟨q3, q4⟩, q5, q6⟩, -⟩ := hI
  refine sw_ME.ofF (by decide +kernel) rfl (Nat.le_of_ble_eq_true rfl) rfl ?_
  have W := wi_N (x := x) (lo := 4) (hi := 24) (by omega) (by omega)
  by_cases hw : ∃ i, 4 ≤ i ∧ i ≤ 24 ∧ x = nI i
  · obtain ⟨i, i4, i24, rfl⟩ := hw
    refine SW.iload_n (q := 1) (i := 1) dX8_size_0 rfl rfl rfl ?_
    refine SW.iconst (q := 2) (v := 4) dX8_size_1 (by decide) rfl ?_
    refine SW.bipush (q := 4) (v := 24) dX8_size_2 (by decide) rfl ?_
    refine SW.sF (q := 7) (C_X8_in) vX8_69 (by decide) rfl rfl (Nat.le_of_ble_eq_true rfl) dX8_size_4 rfl ?_
    refine SW.if_ne (q := 10) (tgt := 13) dX8_size_7 (by decide) rfl (fun _ => ?_) (fun c7 => absurd c7 ((W.mpr ⟨i, i4, i24, rfl⟩)))
    refine SW.aload_n (q := 14) (i := 0) dX8_size_13 rfl rfl rfl ?_
    refine SW.getI (q := 17) (i := 59) fX8_7 rfl rfl dX8_size_14 rfl ?_
    refine SW.istore_n (q := 18) (i := 2) dX8_size_17 rfl (by decide) rfl ?_
    refine SW.aload_n (q := 19) (i := 0) dX8_size_18 rfl rfl rfl ?_
    refine SW.iload_n (q := 20) (i := 1) dX8_size_19 rfl rfl rfl ?_
    refine SW.putI (q := 23) (i := 59) pX8_7 rfl rfl dX8_size_20 rfl ?_
    refine SW.aload_n (q := 24) (i := 0) dX8_size_23 rfl rfl rfl ?_
    refine SW.iconst (q := 25) (v := 0) dX8_size_24 (by decide) rfl ?_
    refine SW.put (q := 28) (i := 59) pX8_76 rfl rfl rfl rfl dX8_size_25 rfl ?_
    refine SW.iload_n (q := 29) (i := 2) dX8_size_28 rfl rfl rfl ?_
    refine SW.iretR rfl rfl dX8_size_29 ?_
    have f0 : fr_ [59] σ (sw_up (sw_up σ 59 1 (nI i)) 59 10 0) := fr_up (fr_up fr_rf (by decide)) (by decide)
    have s0 : fs_ [1, 10] σ (sw_up (sw_up σ 59 1 (nI i)) 59 10 0) := fs_ups (fs_ups fs_rf (by decide)) (by decide)
    refine ⟨fm_fr f0 (by decide), me_fr f0 s0 (by decide) (by decide), fun z => absurd ⟨i, i4, i24, rfl⟩ z, fun i' h' h'' e => ⟨q1, mI_0 ?_ sw_i1⟩⟩
    rw [nI_eq (by omega) (by omega)] at e
    subst e
    unfold mk_ gr_chs
    rw [s0 2 (by decide), s0 3 (by decide), s0 5 (by decide), s0 6 (by decide), f0 60 (by decide), f0 61 (by decide), f0 62 (by decide), sw_o1 (by decide), sw_i1]
    exact ⟨⟨i4, i24, rfl⟩, q2, ⟨q3, q4⟩, q5, q6⟩
  · refine SW.iload_n (q := 1) (i := 1) dX8_size_0 rfl rfl rfl ?_
    refine SW.iconst (q := 2) (v := 4) dX8_size_1 (by decide) rfl ?_
    refine SW.bipush (q := 4) (v := 24) dX8_size_2 (by decide) rfl ?_
    refine SW.sF (q := 7) (C_X8_in) vX8_69 (by decide) rfl rfl (Nat.le_of_ble_eq_true rfl) dX8_size_4 rfl ?_
    refine SW.if_ne (q := 10) (tgt := 13) dX8_size_7 (by decide) rfl (fun c7 => absurd ((Classical.byContradiction fun z => hw (W.mp z))) c7) (fun _ => ?_)
    refine SW.bipush (q := 12) (v := (-2)) dX8_size_10 (by decide) rfl ?_
    refine SW.iretR rfl rfl dX8_size_12 ?_
    exact ⟨fm_rf, me_rf, fun _ => ⟨rfl, rfl⟩, fun i h1 h2 e => absurd ⟨i, h1, h2, e⟩ hw⟩
theorem C_X8_window (hI : mI_ n a b c sea g br wn σ) :
    sw_Mi X 1 mX8_window [.ref (sw_ad X 59), .int x, .int y] σ (fun v u => fm_ σ u ∧ me_ σ u ∧ ((¬ ((∃ i, i ≤ 100000 ∧ x = nI i) ∧ ∃ j, j ≤ 100000 ∧ y = nI j)) → v = -2 ∧ u = σ) ∧ ∀ i j, i ≤ 100000 → j ≤ 100000 → x = nI i → y = nI j → v = 1 ∧ mI_ n i j c sea g br wn u) := by
  obtain ⟨⟨q1, q2, ⟨q3, q4⟩, q5, q6⟩, -⟩ := hI
  refine sw_ME.ofF (by decide +kernel) rfl (Nat.le_of_ble_eq_true rfl) rfl ?_
  have W := fun x => wi_N (x := x) (lo := 0) (hi := 100000) (by omega) (by omega)
  by_cases hx : ∃ i, i ≤ 100000 ∧ x = nI i
  · obtain ⟨i, i1, rfl⟩ := hx
    by_cases hy : ∃ j, j ≤ 100000 ∧ y = nI j
    · obtain ⟨j, j1, rfl⟩ := hy
      refine SW.iload_n (q := 1) (i := 1) dX8_window_0 rfl rfl rfl ?_
      refine SW.iconst (q := 2) (v := 0) dX8_window_1 (by decide) rfl ?_
      refine SW.ldc (q := 4) kX8_97 dX8_window_2 rfl ?_
      refine SW.sF (q := 7) (C_X8_in) vX8_69 (by decide) rfl rfl (Nat.le_of_ble_eq_true rfl) dX8_window_4 rfl ?_
      refine SW.if_eq (q := 10) (tgt := 20) dX8_window_7 (by decide) rfl (fun c7 => absurd c7 (((W _).mpr ⟨i, by omega, i1, rfl⟩))) (fun _ => ?_)
      refine SW.iload_n (q := 11) (i := 2) dX8_window_10 rfl rfl rfl ?_
      refine SW.iconst (q := 12) (v := 0) dX8_window_11 (by decide) rfl ?_
      refine SW.ldc (q := 14) kX8_97 dX8_window_12 rfl ?_
      refine SW.sF (q := 17) (C_X8_in) vX8_69 (by decide) rfl rfl (Nat.le_of_ble_eq_true rfl) dX8_window_14 rfl ?_
      refine SW.if_ne (q := 20) (tgt := 23) dX8_window_17 (by decide) rfl (fun _ => ?_) (fun c17 => absurd c17 (((W _).mpr ⟨j, by omega, j1, rfl⟩)))
      refine SW.aload_n (q := 24) (i := 0) dX8_window_23 rfl rfl rfl ?_
      refine SW.iload_n (q := 25) (i := 1) dX8_window_24 rfl rfl rfl ?_
      refine SW.putI (q := 28) (i := 59) pX8_98 rfl rfl dX8_window_25 rfl ?_
      refine SW.aload_n (q := 29) (i := 0) dX8_window_28 rfl rfl rfl ?_
      refine SW.iload_n (q := 30) (i := 2) dX8_window_29 rfl rfl rfl ?_
      refine SW.putI (q := 33) (i := 59) pX8_101 rfl rfl dX8_window_30 rfl ?_
      refine SW.aload_n (q := 34) (i := 0) dX8_window_33 rfl rfl rfl ?_
      refine SW.iconst (q := 35) (v := 0) dX8_window_34 (by decide) rfl ?_
      refine SW.put (q := 38) (i := 59) pX8_76 rfl rfl rfl rfl dX8_window_35 rfl ?_
      refine SW.iconst (q := 39) (v := 1) dX8_window_38 (by decide) rfl ?_
      refine SW.iretR rfl rfl dX8_window_39 ?_
      have f0 : fr_ [59] σ (sw_up (sw_up (sw_up σ 59 2 (nI i)) 59 3 (nI j)) 59 10 0) := fr_up (fr_up (fr_up fr_rf (by decide)) (by decide)) (by decide)
      have s0 : fs_ [2, 3, 10] σ (sw_up (sw_up (sw_up σ 59 2 (nI i)) 59 3 (nI j)) 59 10 0) := fs_ups (fs_ups (fs_ups fs_rf (by decide)) (by decide)) (by decide)
      refine ⟨fm_fr f0 (by decide), me_fr f0 s0 (by decide) (by decide), fun z => absurd ⟨⟨i, i1, rfl⟩, j, j1, rfl⟩ z, fun i' j' h' h'' e e' => ⟨rfl, mI_0 ?_ sw_i1⟩⟩
      rw [nI_eq (by omega) (by omega)] at e e'
      subst e
      subst e'
      unfold mk_ gr_chs
      rw [s0 1 (by decide), s0 5 (by decide), s0 6 (by decide), f0 60 (by decide), f0 61 (by decide), f0 62 (by decide)]
      exact ⟨q1, ⟨by rw [sw_o1 (by decide), sw_o1 (by decide), sw_i1], i1, by rw [sw_o1 (by decide), sw_i1], j1⟩, ⟨q3, q4⟩, q5, q6⟩
    · refine SW.iload_n (q := 1) (i := 1) dX8_window_0 rfl rfl rfl ?_
      refine SW.iconst (q := 2) (v := 0) dX8_window_1 (by decide) rfl ?_
      refine SW.ldc (q := 4) kX8_97 dX8_window_2 rfl ?_
      refine SW.sF (q := 7) (C_X8_in) vX8_69 (by decide) rfl rfl (Nat.le_of_ble_eq_true rfl) dX8_window_4 rfl ?_
      refine SW.if_eq (q := 10) (tgt := 20) dX8_window_7 (by decide) rfl (fun c7 => absurd c7 (((W _).mpr ⟨i, by omega, i1, rfl⟩))) (fun _ => ?_)
      refine SW.iload_n (q := 11) (i := 2) dX8_window_10 rfl rfl rfl ?_
      refine SW.iconst (q := 12) (v := 0) dX8_window_11 (by decide) rfl ?_
      refine SW.ldc (q := 14) kX8_97 dX8_window_12 rfl ?_
      refine SW.sF (q := 17) (C_X8_in) vX8_69 (by decide) rfl rfl (Nat.le_of_ble_eq_true rfl) dX8_window_14 rfl ?_
      refine SW.if_ne (q := 20) (tgt := 23) dX8_window_17 (by decide) rfl (fun c17 => absurd ((Classical.byContradiction fun z => hy (by obtain ⟨j, _, j2, j3⟩ := (W _).mp z; exact ⟨j, j2, j3⟩))) c17) (fun _ => ?_)
      refine SW.bipush (q := 22) (v := (-2)) dX8_window_20 (by decide) rfl ?_
      refine SW.iretR rfl rfl dX8_window_22 ?_
      exact ⟨fm_rf, me_rf, fun _ => ⟨rfl, rfl⟩, fun i j h1 h2 e e' => absurd ⟨j, h2, e'⟩ hy⟩
  · refine SW.iload_n (q := 1) (i := 1) dX8_window_0 rfl rfl rfl ?_
    refine SW.iconst (q := 2) (v := 0) dX8_window_1 (by decide) rfl ?_
    refine SW.ldc (q := 4) kX8_97 dX8_window_2 rfl ?_
    refine SW.sF (q := 7) (C_X8_in) vX8_69 (by decide) rfl rfl (Nat.le_of_ble_eq_true rfl) dX8_window_4 rfl ?_
    refine SW.if_eq (q := 10) (tgt := 20) dX8_window_7 (by decide) rfl (fun _ => ?_) (fun c7 => absurd ((Classical.byContradiction fun z => hx (by obtain ⟨j, _, j2, j3⟩ := (W _).mp z; exact ⟨j, j2, j3⟩))) c7)
    refine SW.bipush (q := 22) (v := (-2)) dX8_window_20 (by decide) rfl ?_
    refine SW.iretR rfl rfl dX8_window_22 ?_
    exact ⟨fm_rf, me_rf, fun _ => ⟨rfl, rfl⟩, fun i j h1 h2 e e' => absurd ⟨i, h1, e⟩ hx⟩
theorem C_X8_ground : sw_Mi X 6 mX8_ground [.ref (sw_ad X 59), .int x, .int y] σ (fun v u => u = σ ∧ ((¬ ((∃ i, i ≤ 200000 ∧ x = nI i) ∧ ∃ j, j ≤ 200000 ∧ y = nI j)) → v = -2) ∧ ∀ i j, i ≤ 200000 → j ≤ 200000 → x = nI i → y = nI j → v = nI (gr_g (σ 59 0) i j)) := by
  refine sw_ME.ofF (by decide +kernel) rfl (Nat.le_of_ble_eq_true rfl) rfl ?_
  have W := fun x => wi_N (x := x) (lo := 0) (hi := 200000) (by omega) (by omega)
  by_cases hx : ∃ i, i ≤ 200000 ∧ x = nI i
  · obtain ⟨i, i1, rfl⟩ := hx
    by_cases hy : ∃ j, j ≤ 200000 ∧ y = nI j
    · obtain ⟨j, j1, rfl⟩ := hy
      refine SW.iload_n (q := 1) (i := 1) dX8_ground_0 rfl rfl rfl ?_
      refine SW.iconst (q := 2) (v := 0) dX8_ground_1 (by decide) rfl ?_
      refine SW.ldc (q := 4) kX8_92 dX8_ground_2 rfl ?_
      refine SW.sF (q := 7) (C_X8_in) vX8_69 (by decide) rfl rfl (Nat.le_of_ble_eq_true rfl) dX8_ground_4 rfl ?_
      refine SW.if_eq (q := 10) (tgt := 29) dX8_ground_7 (by decide) rfl (fun c7 => absurd c7 (((W _).mpr ⟨i, by omega, i1, rfl⟩))) (fun _ => ?_)
      refine SW.iload_n (q := 11) (i := 2) dX8_ground_10 rfl rfl rfl ?_
      refine SW.iconst (q := 12) (v := 0) dX8_ground_11 (by decide) rfl ?_
      refine SW.ldc (q := 14) kX8_92 dX8_ground_12 rfl ?_
      refine SW.sF (q := 17) (C_X8_in) vX8_69 (by decide) rfl rfl (Nat.le_of_ble_eq_true rfl) dX8_ground_14 rfl ?_
      refine SW.if_eq (q := 20) (tgt := 29) dX8_ground_17 (by decide) rfl (fun c17 => absurd c17 (((W _).mpr ⟨j, by omega, j1, rfl⟩))) (fun _ => ?_)
      refine SW.aload_n (q := 21) (i := 0) dX8_ground_20 rfl rfl rfl ?_
      refine SW.iload_n (q := 22) (i := 1) dX8_ground_21 rfl rfl rfl ?_
      refine SW.iload_n (q := 23) (i := 2) dX8_ground_22 rfl rfl rfl ?_
      refine SW.cF (q := 26) (C_X8_groundAt (a := i) (b := j) rfl rfl (by omega) (by omega)) vX8_93 (by decide) rfl rfl rfl rfl (Nat.le_of_ble_eq_true rfl) dX8_ground_23 rfl ?_
      refine SW.goto (q := 31) dX8_ground_26 (by decide) ?_
      refine SW.iretR rfl rfl dX8_ground_31 ?_
      refine ⟨rfl, fun z => absurd ⟨⟨i, i1, rfl⟩, j, j1, rfl⟩ z, fun i' j' h' h'' e e' => ?_⟩
      rw [nI_eq (by omega) (by omega)] at e e'
      subst e
      subst e'
      rfl
    · refine SW.iload_n (q := 1) (i := 1) dX8_ground_0 rfl rfl rfl ?_
      refine SW.iconst (q := 2) (v := 0) dX8_ground_1 (by decide) rfl ?_
      refine SW.ldc (q := 4) kX8_92 dX8_ground_2 rfl ?_
      refine SW.sF (q := 7) (C_X8_in) vX8_69 (by decide) rfl rfl (Nat.le_of_ble_eq_true rfl) dX8_ground_4 rfl ?_
      refine SW.if_eq (q := 10) (tgt := 29) dX8_ground_7 (by decide) rfl (fun c7 => absurd c7 (((W _).mpr ⟨i, by omega, i1, rfl⟩))) (fun _ => ?_)
      refine SW.iload_n (q := 11) (i := 2) dX8_ground_10 rfl rfl rfl ?_
      refine SW.iconst (q := 12) (v := 0) dX8_ground_11 (by decide) rfl ?_
      refine SW.ldc (q := 14) kX8_92 dX8_ground_12 rfl ?_
      refine SW.sF (q := 17) (C_X8_in) vX8_69 (by decide) rfl rfl (Nat.le_of_ble_eq_true rfl) dX8_ground_14 rfl ?_
      refine SW.if_eq (q := 20) (tgt := 29) dX8_ground_17 (by decide) rfl (fun _ => ?_) (fun c17 => absurd ((Classical.byContradiction fun z => hy (by obtain ⟨j, _, j2, j3⟩ := (W _).mp z; exact ⟨j, j2, j3⟩))) c17)
      refine SW.bipush (q := 31) (v := (-2)) dX8_ground_29 (by decide) rfl ?_
      refine SW.iretR rfl rfl dX8_ground_31 ?_
      exact ⟨rfl, fun _ => rfl, fun i j h1 h2 e e' => absurd ⟨j, h2, e'⟩ hy⟩
  · refine SW.iload_n (q := 1) (i := 1) dX8_ground_0 rfl rfl rfl ?_
    refine SW.iconst (q := 2) (v := 0) dX8_ground_1 (by decide) rfl ?_
    refine SW.ldc (q := 4) kX8_92 dX8_ground_2 rfl ?_
    refine SW.sF (q := 7) (C_X8_in) vX8_69 (by decide) rfl rfl (Nat.le_of_ble_eq_true rfl) dX8_ground_4 rfl ?_
    refine SW.if_eq (q := 10) (tgt := 29) dX8_ground_7 (by decide) rfl (fun _ => ?_) (fun c7 => absurd ((Classical.byContradiction fun z => hx (by obtain ⟨j, _, j2, j3⟩ := (W _).mp z; exact ⟨j, j2, j3⟩))) c7)
    refine SW.bipush (q := 31) (v := (-2)) dX8_ground_29 (by decide) rfl ?_
    refine SW.iretR rfl rfl dX8_ground_31 ?_
    exact ⟨rfl, fun _ => rfl, fun i j h1 h2 e e' => absurd ⟨i, h1, e⟩ hx⟩
theorem C_X8_undo (hI : mI_ n a b c sea g br wn σ) :
    sw_Mi X 0 mX8_undo [.ref (sw_ad X 59)] σ (fun v u => fm_ σ u ∧ me_ σ u ∧ (c = 0 → v = -1 ∧ u = σ) ∧ (0 < c → v = nI (c - 1) ∧ mI_ n a b (c - 1) sea g br wn u)) := by
  obtain ⟨⟨q1, q2, ⟨q3, q4⟩, q5, q6⟩, -⟩ := hI
  have c30 := q4.1
  refine sw_ME.ofF (by decide +kernel) rfl (Nat.le_of_ble_eq_true rfl) rfl ?_
  by_cases hc : c = 0
  · refine SW.aload_n (q := 1) (i := 0) dX8_undo_0 rfl rfl rfl ?_
    refine SW.getI (q := 4) (i := 59) fX8_108 rfl rfl dX8_undo_1 rfl ?_
    refine SW.if_ne (q := 7) (tgt := 9) dX8_undo_4 (by decide) rfl (fun c4 => absurd ((by rw [q3, hc]; rfl)) c4) (fun _ => ?_)
    refine SW.iconst (q := 8) (v := (-1)) dX8_undo_7 (by decide) rfl ?_
    refine SW.iretR rfl rfl dX8_undo_8 ?_
    exact ⟨fm_rf, me_rf, fun _ => ⟨rfl, rfl⟩, fun z => by omega⟩
  · have e1 : nI c - 1 = nI (c - 1) := nI_pr (by omega)
    refine SW.aload_n (q := 1) (i := 0) dX8_undo_0 rfl rfl rfl ?_
    refine SW.getI (q := 4) (i := 59) fX8_108 rfl rfl dX8_undo_1 rfl ?_
    refine SW.if_ne (q := 7) (tgt := 9) dX8_undo_4 (by decide) rfl (fun _ => ?_) (fun c4 => absurd c4 ((by rw [q3]; exact nI_ne0 (by omega) (by omega))))
    refine SW.aload_n (q := 10) (i := 0) dX8_undo_9 rfl rfl rfl ?_
    refine SW.dup (q := 11) dX8_undo_10 rfl rfl ?_
    refine SW.getI (q := 14) (i := 59) fX8_108 rfl rfl dX8_undo_11 rfl ?_
    refine SW.iconst (q := 15) (v := 1) dX8_undo_14 (by decide) rfl ?_
    refine SW.isub (q := 16) dX8_undo_15 rfl ?_
    refine SW.putI (q := 19) (i := 59) pX8_108 rfl rfl dX8_undo_16 rfl ?_
    refine SW.aload_n (q := 20) (i := 0) dX8_undo_19 rfl rfl rfl ?_
    refine SW.iconst (q := 21) (v := 0) dX8_undo_20 (by decide) rfl ?_
    refine SW.put (q := 24) (i := 59) pX8_76 rfl rfl rfl rfl dX8_undo_21 rfl ?_
    refine SW.aload_n (q := 25) (i := 0) dX8_undo_24 rfl rfl rfl ?_
    refine SW.getI (q := 28) (i := 59) fX8_108 rfl rfl dX8_undo_25 rfl ?_
    refine SW.iretR rfl rfl dX8_undo_28 ?_
    have f0 : fr_ [59] σ (sw_up (sw_up σ 59 6 (σ 59 6 - 1)) 59 10 0) := fr_up (fr_up fr_rf (by decide)) (by decide)
    have s0 : fs_ [6, 10] σ (sw_up (sw_up σ 59 6 (σ 59 6 - 1)) 59 10 0) := fs_ups (fs_ups fs_rf (by decide)) (by decide)
    refine ⟨fm_fr f0 (by decide), me_fr f0 s0 (by decide) (by decide), fun z => absurd z hc, fun _ => ⟨by rw [sw_o1 (by decide), sw_i1, q3, e1], mI_0 ?_ sw_i1⟩⟩
    unfold mk_ gr_chs
    rw [s0 1 (by decide), s0 2 (by decide), s0 3 (by decide), s0 5 (by decide), f0 60 (by decide), f0 61 (by decide), f0 62 (by decide), sw_o1 (by decide), sw_i1, q3, e1]
    exact ⟨q1, q2, ⟨rfl, by omega, fun k hk => q4.2 k (by omega)⟩, q5, q6⟩
end MSET
