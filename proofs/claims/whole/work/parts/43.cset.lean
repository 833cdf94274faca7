/-! the class's own methods: what is set -/
theorem sw_min_N {k s : Nat} (hk : k < 2 ^ 30) (hs : s < 2 ^ 30) : sw_min (nI k) (nI s) = nI (min k s) := by
  unfold sw_min
  rcases Nat.lt_or_ge s k with z | z
  · rw [if_pos (Int32.not_le.mp (nI_ge z (by omega))), Nat.min_eq_right (by omega)]
  · rw [if_neg (Int32.not_lt.mpr (nI_le z (by omega))), Nat.min_eq_left z]
theorem tn_wiN {x : Int32} {m : Nat} (m6 : m ≤ 1000) : (¬ sw_wi x 0 (nI m - 1) = 0) ↔ ∃ i, i < m ∧ x = nI i := by
  cases m with
  | zero =>
    constructor
    · intro z
      refine absurd ?_ z
      unfold sw_wi
      refine if_neg (fun y => ?_)
      have h1 := i_le.mp y.1
      have h2 := i_le.mp y.2
      have e1 : (0 : Int32).toInt = 0 := rfl
      have e2 : (nI 0 - 1).toInt = -1 := by decide
      omega
    · rintro ⟨i, i1, -⟩; omega
  | succ m =>
    rw [nI_pr (by omega), show m + 1 - 1 = m by omega]
    constructor
    · intro z
      unfold sw_wi at z
      by_cases y : 0 ≤ x ∧ x ≤ nI m
      · have h1 := i_le.mp y.1
        have h2 := i_le.mp y.2
        have e1 : (0 : Int32).toInt = 0 := rfl
        rw [nI_toInt (by omega)] at h2
        refine ⟨x.toInt.toNat, by omega, ?_⟩
        apply Int32.toInt_inj.mp
        rw [nI_toInt (by omega)]
        omega
      · rw [if_neg y] at z; exact absurd rfl z
    · rintro ⟨i, i1, rfl⟩
      exact sw_wi_1 (nI_pos' (by omega)) (nI_le (by omega) (by omega))
theorem wi_N {x : Int32} {lo hi : Nat} (h : lo < 2 ^ 30) (h' : hi < 2 ^ 30) : (¬ sw_wi x (nI lo) (nI hi) = 0) ↔ ∃ i, lo ≤ i ∧ i ≤ hi ∧ x = nI i := by
  constructor
  · intro z
    unfold sw_wi at z
    by_cases y : nI lo ≤ x ∧ x ≤ nI hi
    · have h1 := i_le.mp y.1
      have h2 := i_le.mp y.2
      rw [nI_toInt (by omega)] at h1 h2
      refine ⟨x.toInt.toNat, by omega, by omega, ?_⟩
      apply Int32.toInt_inj.mp
      rw [nI_toInt (by omega)]
      omega
    · rw [if_neg y] at z; exact absurd rfl z
  · rintro ⟨i, i1, i2, rfl⟩
    exact sw_wi_1 (nI_le i1 (by omega)) (nI_le i2 (by omega))
section CSET
variable {X : sw_X} {σ τ u : sw_Sg} {x y v w st what : Int32} {n a b c sea g br wn k s M p : Nat} {L : List Nat}
theorem cI_0 (hK : ck_ n a b c sea g br wn τ) (h : τ 0 8 = nI 0) : cI_ n a b c sea g br wn 0 τ := ⟨hK, h, by omega, fun z => by omega, fun z => by omega, fun z => by omega, fun z => by omega⟩
theorem ck_s (z : ck_ n a b c sea g br wn τ) : ck_ n a b c sea g br wn (sw_up τ 0 8 v) := z.fr (l := [0]) (fr_up fr_rf (by decide)) (sw_o1 (by decide)) (by decide)
theorem mk_0 (h : σ 0 8 = nI k) (k4 : k ≤ 4) : sw_min (σ 0 8) 0 = nI 0 := by
  rw [h, show (0 : Int32) = nI 0 from rfl, sw_min_N (by omega) (by omega)]; rw [Nat.min_eq_right (by omega)]
theorem C_X7_seed (hI : cI_ n a b c sea g br wn k σ) :
    sw_Mi X 2 mX7_seed [.ref (sw_ad X 0), .int x] σ (fun v u => fc_ σ u ∧ (u 1 0 = x ∧ u 33 1 = σ 33 1 ∧ u 34 = σ 34 ∧ u 35 = σ 35 ∧ u 36 = σ 36) ∧ cI_ n a b c sea g br wn 0 u ∧ v = σ 1 0) := by
  obtain ⟨hK, hk, k4, -⟩ := hI
  refine sw_ME.ofF (by decide +kernel) rfl (Nat.le_of_ble_eq_true rfl) rfl ?_
  refine SW.aload_n (q := 1) (i := 0) dX7_seed_0 rfl rfl rfl ?_
  refine SW.getR (q := 4) (i := 0) (j := 1) fX7_12 rfl rfl dX7_seed_1 rfl ?_
  refine SW.getI (q := 7) (i := 1) fX7_75 rfl rfl dX7_seed_4 rfl ?_
  refine SW.istore_n (q := 8) (i := 2) dX7_seed_7 rfl (by decide) rfl ?_
  refine SW.aload_n (q := 9) (i := 0) dX7_seed_8 rfl rfl rfl ?_
  refine SW.getR (q := 12) (i := 0) (j := 1) fX7_12 rfl rfl dX7_seed_9 rfl ?_
  refine SW.iload_n (q := 13) (i := 1) dX7_seed_12 rfl rfl rfl ?_
  refine SW.putI (q := 16) (i := 1) pX7_75 rfl rfl dX7_seed_13 rfl ?_
  refine SW.aload_n (q := 17) (i := 0) dX7_seed_16 rfl rfl rfl ?_
  refine SW.iconst (q := 18) (v := 0) dX7_seed_17 (by decide) rfl ?_
  refine SW.cG (q := 21) (C_X7_keepUpTo) vX7_78 (by decide) rfl rfl rfl rfl (Nat.le_of_ble_eq_true rfl) dX7_seed_18 rfl ?_
  refine SW.iload_n (q := 22) (i := 2) dX7_seed_21 rfl rfl rfl ?_
  refine SW.iretR rfl rfl dX7_seed_22 ?_
  refine ⟨fc_fr (l := [0, 1]) (fr_up (fr_up fr_rf (by decide)) (by decide)) (by decide), ⟨by rw [sw_un (by decide), sw_i1], by rw [sw_un (by decide), sw_un (by decide)], by rw [sw_un (by decide), sw_un (by decide)], by rw [sw_un (by decide), sw_un (by decide)], by rw [sw_un (by decide), sw_un (by decide)]⟩, cI_0 (ck_s ?_) ?_, rfl⟩
  · obtain ⟨⟨n4, n24, q1, q2⟩, ⟨q3, q4, q5, q6⟩, ⟨q7, q8⟩, q9, q10⟩ := hK
    unfold ck_ gr_chs
    rw [sw_o1 (by decide), sw_o1 (by decide), sw_o1 (by decide), sw_o1 (by decide), sw_o1 (by decide), sw_un (by decide), sw_un (by decide), sw_un (by decide), sw_un (by decide)]
    exact ⟨⟨n4, n24, q1, q2⟩, ⟨q3, q4, q5, q6⟩, ⟨q7, q8⟩, q9, q10⟩
  · rw [sw_i1, sw_un (by decide)]; exact mk_0 hk k4
theorem C_X7_size (hI : cI_ n a b c sea g br wn k σ) :
    sw_Mi X 2 mX7_size [.ref (sw_ad X 0), .int x] σ (fun v u => fc_ σ u ∧ ce_ σ u ∧ ((¬ ∃ i, 4 ≤ i ∧ i ≤ 24 ∧ x = nI i) → v = -2 ∧ cI_ n a b c sea g br wn k u) ∧ ∀ i, 4 ≤ i → i ≤ 24 → x = nI i → v = nI n ∧ cI_ i a b c sea g br wn 0 u) := by
  have hI0 := hI
  obtain ⟨hK, hk, k4, -⟩ := hI
  have en := hK.1.2.2.1
  refine sw_ME.ofF (by decide +kernel) rfl (Nat.le_of_ble_eq_true rfl) rfl ?_
  have W := wi_N (x := x) (lo := 4) (hi := 24) (by omega) (by omega)
  by_cases hw : ∃ i, 4 ≤ i ∧ i ≤ 24 ∧ x = nI i
  · obtain ⟨i, i4, i24, rfl⟩ := hw
    refine SW.iload_n (q := 1) (i := 1) dX7_size_0 rfl rfl rfl ?_
    refine SW.iconst (q := 2) (v := 4) dX7_size_1 (by decide) rfl ?_
    refine SW.bipush (q := 4) (v := 24) dX7_size_2 (by decide) rfl ?_
    refine SW.sF (q := 7) (C_X7_within) vX7_82 (by decide) rfl rfl (Nat.le_of_ble_eq_true rfl) dX7_size_4 rfl ?_
    refine SW.if_ne (q := 10) (tgt := 13) dX7_size_7 (by decide) rfl (fun _ => ?_) (fun c7 => absurd c7 ((W.mpr ⟨i, i4, i24, rfl⟩)))
    refine SW.aload_n (q := 14) (i := 0) dX7_size_13 rfl rfl rfl ?_
    refine SW.getR (q := 17) (i := 0) (j := 1) fX7_12 rfl rfl dX7_size_14 rfl ?_
    refine SW.getI (q := 20) (i := 1) fX7_90 rfl rfl dX7_size_17 rfl ?_
    refine SW.istore_n (q := 21) (i := 2) dX7_size_20 rfl (by decide) rfl ?_
    refine SW.aload_n (q := 22) (i := 0) dX7_size_21 rfl rfl rfl ?_
    refine SW.getR (q := 25) (i := 0) (j := 1) fX7_12 rfl rfl dX7_size_22 rfl ?_
    refine SW.iload_n (q := 26) (i := 1) dX7_size_25 rfl rfl rfl ?_
    refine SW.putI (q := 29) (i := 1) pX7_90 rfl rfl dX7_size_26 rfl ?_
    refine SW.aload_n (q := 30) (i := 0) dX7_size_29 rfl rfl rfl ?_
    refine SW.getR (q := 33) (i := 0) (j := 1) fX7_12 rfl rfl dX7_size_30 rfl ?_
    refine SW.iload_n (q := 34) (i := 1) dX7_size_33 rfl rfl rfl ?_
    refine SW.iload_n (q := 35) (i := 1) dX7_size_34 rfl rfl rfl ?_
    refine SW.imul (q := 36) dX7_size_35 rfl ?_
    refine SW.putI (q := 39) (i := 1) pX7_93 rfl rfl dX7_size_36 rfl ?_
    refine SW.aload_n (q := 40) (i := 0) dX7_size_39 rfl rfl rfl ?_
    refine SW.iconst (q := 41) (v := 0) dX7_size_40 (by decide) rfl ?_
    refine SW.cG (q := 44) (C_X7_keepUpTo) vX7_78 (by decide) rfl rfl rfl rfl (Nat.le_of_ble_eq_true rfl) dX7_size_41 rfl ?_
    refine SW.iload_n (q := 45) (i := 2) dX7_size_44 rfl rfl rfl ?_
    refine SW.iretR rfl rfl dX7_size_45 ?_
    refine ⟨fc_fr (l := [0, 1]) (fr_up (fr_up (fr_up fr_rf (by decide)) (by decide)) (by decide)) (by decide), ⟨by rw [sw_un (by decide), sw_o1 (by decide), sw_o1 (by decide)], by rw [sw_un (by decide), sw_un (by decide), sw_un (by decide)], by rw [sw_un (by decide), sw_un (by decide), sw_un (by decide)], by rw [sw_un (by decide), sw_un (by decide), sw_un (by decide)], by rw [sw_un (by decide), sw_un (by decide), sw_un (by decide)]⟩, fun z => absurd ⟨i, i4, i24, rfl⟩ z, fun i' h' h'' e => ⟨en, cI_0 (ck_s ?_) ?_⟩⟩
    · rw [nI_eq (by omega) (by omega)] at e
      subst e
      obtain ⟨⟨n4, n24, q1, q2⟩, ⟨q3, q4, q5, q6⟩, ⟨q7, q8⟩, q9, q10⟩ := hK
      refine ⟨⟨i4, i24, ?_, ?_⟩, ⟨?_, q4, ?_, q6⟩, ⟨?_, ?_⟩, ?_, ?_⟩
      · rw [sw_o1 (by decide), sw_i1]
      · rw [sw_i1, pk_mul]
      · rw [sw_o1 (by decide), sw_o1 (by decide)]; exact q3
      · rw [sw_o1 (by decide), sw_o1 (by decide)]; exact q5
      · rw [sw_o1 (by decide), sw_o1 (by decide)]; exact q7
      · unfold gr_chs; rw [sw_un (by decide), sw_un (by decide), sw_un (by decide), sw_un (by decide)]; exact q8
      · rw [sw_un (by decide), sw_un (by decide)]; exact q9
      · rw [sw_un (by decide), sw_un (by decide)]; exact q10
    · rw [sw_i1, sw_un (by decide), sw_un (by decide)]; exact mk_0 hk k4
  · refine SW.iload_n (q := 1) (i := 1) dX7_size_0 rfl rfl rfl ?_
    refine SW.iconst (q := 2) (v := 4) dX7_size_1 (by decide) rfl ?_
    refine SW.bipush (q := 4) (v := 24) dX7_size_2 (by decide) rfl ?_
    refine SW.sF (q := 7) (C_X7_within) vX7_82 (by decide) rfl rfl (Nat.le_of_ble_eq_true rfl) dX7_size_4 rfl ?_
    refine SW.if_ne (q := 10) (tgt := 13) dX7_size_7 (by decide) rfl (fun c7 => absurd ((Classical.byContradiction fun z => hw (W.mp z))) c7) (fun _ => ?_)
    refine SW.bipush (q := 12) (v := (-2)) dX7_size_10 (by decide) rfl ?_
    refine SW.iretR rfl rfl dX7_size_12 ?_
    exact ⟨fc_rf, ce_rf, fun _ => ⟨rfl, hI0⟩, fun i h1 h2 e => absurd ⟨i, h1, h2, e⟩ hw⟩
theorem C_X7_window (hI : cI_ n a b c sea g br wn k σ) :
    sw_Mi X 2 mX7_window [.ref (sw_ad X 0), .int x, .int y] σ (fun v u => fc_ σ u ∧ ce_ σ u ∧ ((¬ ((∃ i, i ≤ 100000 ∧ x = nI i) ∧ ∃ j, j ≤ 100000 ∧ y = nI j)) → v = -2 ∧ cI_ n a b c sea g br wn k u) ∧ ∀ i j, i ≤ 100000 → j ≤ 100000 → x = nI i → y = nI j → v = 1 ∧ cI_ n i j c sea g br wn 0 u) := by
  have hI0 := hI
  obtain ⟨hK, hk, k4, -⟩ := hI
  refine sw_ME.ofF (by decide +kernel) rfl (Nat.le_of_ble_eq_true rfl) rfl ?_
  have W := fun x => wi_N (x := x) (lo := 0) (hi := 100000) (by omega) (by omega)
  by_cases hx : ∃ i, i ≤ 100000 ∧ x = nI i
  · obtain ⟨i, i1, rfl⟩ := hx
    by_cases hy : ∃ j, j ≤ 100000 ∧ y = nI j
    · obtain ⟨j, j1, rfl⟩ := hy
      refine SW.iload_n (q := 1) (i := 1) dX7_window_0 rfl rfl rfl ?_
      refine SW.iconst (q := 2) (v := 0) dX7_window_1 (by decide) rfl ?_
      refine SW.ldc (q := 4) kX7_96 dX7_window_2 rfl ?_
      refine SW.sF (q := 7) (C_X7_within) vX7_82 (by decide) rfl rfl (Nat.le_of_ble_eq_true rfl) dX7_window_4 rfl ?_
      refine SW.if_eq (q := 10) (tgt := 20) dX7_window_7 (by decide) rfl (fun c7 => absurd c7 (((W _).mpr ⟨i, by omega, i1, rfl⟩))) (fun _ => ?_)
      refine SW.iload_n (q := 11) (i := 2) dX7_window_10 rfl rfl rfl ?_
      refine SW.iconst (q := 12) (v := 0) dX7_window_11 (by decide) rfl ?_
      refine SW.ldc (q := 14) kX7_96 dX7_window_12 rfl ?_
      refine SW.sF (q := 17) (C_X7_within) vX7_82 (by decide) rfl rfl (Nat.le_of_ble_eq_true rfl) dX7_window_14 rfl ?_
      refine SW.if_ne (q := 20) (tgt := 23) dX7_window_17 (by decide) rfl (fun _ => ?_) (fun c17 => absurd c17 (((W _).mpr ⟨j, by omega, j1, rfl⟩)))
      refine SW.aload_n (q := 24) (i := 0) dX7_window_23 rfl rfl rfl ?_
      refine SW.getR (q := 27) (i := 0) (j := 1) fX7_12 rfl rfl dX7_window_24 rfl ?_
      refine SW.iload_n (q := 28) (i := 1) dX7_window_27 rfl rfl rfl ?_
      refine SW.putI (q := 31) (i := 1) pX7_97 rfl rfl dX7_window_28 rfl ?_
      refine SW.aload_n (q := 32) (i := 0) dX7_window_31 rfl rfl rfl ?_
      refine SW.getR (q := 35) (i := 0) (j := 1) fX7_12 rfl rfl dX7_window_32 rfl ?_
      refine SW.iload_n (q := 36) (i := 2) dX7_window_35 rfl rfl rfl ?_
      refine SW.putI (q := 39) (i := 1) pX7_100 rfl rfl dX7_window_36 rfl ?_
      refine SW.aload_n (q := 40) (i := 0) dX7_window_39 rfl rfl rfl ?_
      refine SW.iconst (q := 41) (v := 0) dX7_window_40 (by decide) rfl ?_
      refine SW.cG (q := 44) (C_X7_keepUpTo) vX7_78 (by decide) rfl rfl rfl rfl (Nat.le_of_ble_eq_true rfl) dX7_window_41 rfl ?_
      refine SW.iconst (q := 45) (v := 1) dX7_window_44 (by decide) rfl ?_
      refine SW.iretR rfl rfl dX7_window_45 ?_
      refine ⟨fc_fr (l := [0, 1]) (fr_up (fr_up (fr_up fr_rf (by decide)) (by decide)) (by decide)) (by decide), ⟨by rw [sw_un (by decide), sw_o1 (by decide), sw_o1 (by decide)], by rw [sw_un (by decide), sw_un (by decide), sw_un (by decide)], by rw [sw_un (by decide), sw_un (by decide), sw_un (by decide)], by rw [sw_un (by decide), sw_un (by decide), sw_un (by decide)], by rw [sw_un (by decide), sw_un (by decide), sw_un (by decide)]⟩, fun z => absurd ⟨⟨i, i1, rfl⟩, j, j1, rfl⟩ z, fun i' j' h' h'' e e' => ⟨rfl, cI_0 (ck_s ?_) ?_⟩⟩
      · rw [nI_eq (by omega) (by omega)] at e e'
        subst e
        subst e'
        obtain ⟨⟨n4, n24, q1, q2⟩, ⟨q3, q4, q5, q6⟩, ⟨q7, q8⟩, q9, q10⟩ := hK
        refine ⟨⟨n4, n24, ?_, ?_⟩, ⟨?_, i1, ?_, j1⟩, ⟨?_, ?_⟩, ?_, ?_⟩
        · rw [sw_o1 (by decide), sw_o1 (by decide)]; exact q1
        · rw [sw_o1 (by decide), sw_o1 (by decide)]; exact q2
        · rw [sw_o1 (by decide), sw_i1]
        · rw [sw_i1]
        · rw [sw_o1 (by decide), sw_o1 (by decide)]; exact q7
        · unfold gr_chs; rw [sw_un (by decide), sw_un (by decide), sw_un (by decide), sw_un (by decide)]; exact q8
        · rw [sw_un (by decide), sw_un (by decide)]; exact q9
        · rw [sw_un (by decide), sw_un (by decide)]; exact q10
      · rw [sw_i1, sw_un (by decide), sw_un (by decide)]; exact mk_0 hk k4
    · refine SW.iload_n (q := 1) (i := 1) dX7_window_0 rfl rfl rfl ?_
      refine SW.iconst (q := 2) (v := 0) dX7_window_1 (by decide) rfl ?_
      refine SW.ldc (q := 4) kX7_96 dX7_window_2 rfl ?_
      refine SW.sF (q := 7) (C_X7_within) vX7_82 (by decide) rfl rfl (Nat.le_of_ble_eq_true rfl) dX7_window_4 rfl ?_
      refine SW.if_eq (q := 10) (tgt := 20) dX7_window_7 (by decide) rfl (fun c7 => absurd c7 (((W _).mpr ⟨i, by omega, i1, rfl⟩))) (fun _ => ?_)
      refine SW.iload_n (q := 11) (i := 2) dX7_window_10 rfl rfl rfl ?_
      refine SW.iconst (q := 12) (v := 0) dX7_window_11 (by decide) rfl ?_
      refine SW.ldc (q := 14) kX7_96 dX7_window_12 rfl ?_
      refine SW.sF (q := 17) (C_X7_within) vX7_82 (by decide) rfl rfl (Nat.le_of_ble_eq_true rfl) dX7_window_14 rfl ?_
      refine SW.if_ne (q := 20) (tgt := 23) dX7_window_17 (by decide) rfl (fun c17 => absurd ((Classical.byContradiction fun z => hy (by obtain ⟨j, _, j2, j3⟩ := (W _).mp z; exact ⟨j, j2, j3⟩))) c17) (fun _ => ?_)
      refine SW.bipush (q := 22) (v := (-2)) dX7_window_20 (by decide) rfl ?_
      refine SW.iretR rfl rfl dX7_window_22 ?_
      exact ⟨fc_rf, ce_rf, fun _ => ⟨rfl, hI0⟩, fun i j h1 h2 e e' => absurd ⟨j, h2, e'⟩ hy⟩
  · refine SW.iload_n (q := 1) (i := 1) dX7_window_0 rfl rfl rfl ?_
    refine SW.iconst (q := 2) (v := 0) dX7_window_1 (by decide) rfl ?_
    refine SW.ldc (q := 4) kX7_96 dX7_window_2 rfl ?_
    refine SW.sF (q := 7) (C_X7_within) vX7_82 (by decide) rfl rfl (Nat.le_of_ble_eq_true rfl) dX7_window_4 rfl ?_
    refine SW.if_eq (q := 10) (tgt := 20) dX7_window_7 (by decide) rfl (fun _ => ?_) (fun c7 => absurd ((Classical.byContradiction fun z => hx (by obtain ⟨j, _, j2, j3⟩ := (W _).mp z; exact ⟨j, j2, j3⟩))) c7)
    refine SW.bipush (q := 22) (v := (-2)) dX7_window_20 (by decide) rfl ?_
    refine SW.iretR rfl rfl dX7_window_22 ?_
    exact ⟨fc_rf, ce_rf, fun _ => ⟨rfl, hI0⟩, fun i j h1 h2 e e' => absurd ⟨i, h1, e⟩ hx⟩
theorem C_X7_ground (hI : cI_ n a b c sea g br wn k σ) :
    sw_Mi X 6 mX7_ground [.ref (sw_ad X 0), .int x, .int y] σ (fun v u => u = σ ∧ ((¬ ((∃ i, i ≤ 200000 ∧ x = nI i) ∧ ∃ j, j ≤ 200000 ∧ y = nI j)) → v = -2) ∧ ∀ i j, i ≤ 200000 → j ≤ 200000 → x = nI i → y = nI j → v = nI (gr_g (σ 1 0) i j)) := by
  refine sw_ME.ofF (by decide +kernel) rfl (Nat.le_of_ble_eq_true rfl) rfl ?_
  have W := fun x => wi_N (x := x) (lo := 0) (hi := 200000) (by omega) (by omega)
  by_cases hx : ∃ i, i ≤ 200000 ∧ x = nI i
  · obtain ⟨i, i1, rfl⟩ := hx
    by_cases hy : ∃ j, j ≤ 200000 ∧ y = nI j
    · obtain ⟨j, j1, rfl⟩ := hy
      refine SW.iload_n (q := 1) (i := 1) dX7_ground_0 rfl rfl rfl ?_
      refine SW.iconst (q := 2) (v := 0) dX7_ground_1 (by decide) rfl ?_
      refine SW.ldc (q := 4) kX7_81 dX7_ground_2 rfl ?_
      refine SW.sF (q := 7) (C_X7_within) vX7_82 (by decide) rfl rfl (Nat.le_of_ble_eq_true rfl) dX7_ground_4 rfl ?_
      refine SW.if_eq (q := 10) (tgt := 20) dX7_ground_7 (by decide) rfl (fun c7 => absurd c7 (((W _).mpr ⟨i, by omega, i1, rfl⟩))) (fun _ => ?_)
      refine SW.iload_n (q := 11) (i := 2) dX7_ground_10 rfl rfl rfl ?_
      refine SW.iconst (q := 12) (v := 0) dX7_ground_11 (by decide) rfl ?_
      refine SW.ldc (q := 14) kX7_81 dX7_ground_12 rfl ?_
      refine SW.sF (q := 17) (C_X7_within) vX7_82 (by decide) rfl rfl (Nat.le_of_ble_eq_true rfl) dX7_ground_14 rfl ?_
      refine SW.if_ne (q := 20) (tgt := 23) dX7_ground_17 (by decide) rfl (fun _ => ?_) (fun c17 => absurd c17 (((W _).mpr ⟨j, by omega, j1, rfl⟩)))
      refine SW.aload_n (q := 24) (i := 0) dX7_ground_23 rfl rfl rfl ?_
      refine SW.getR (q := 27) (i := 0) (j := 1) fX7_12 rfl rfl dX7_ground_24 rfl ?_
      refine SW.iload_n (q := 28) (i := 1) dX7_ground_27 rfl rfl rfl ?_
      refine SW.iload_n (q := 29) (i := 2) dX7_ground_28 rfl rfl rfl ?_
      refine SW.cF (q := 32) (C_X5_groundOf (a := i) (b := j) rfl rfl (by omega) (by omega)) vX7_86 (by decide) rfl rfl rfl rfl (Nat.le_of_ble_eq_true rfl) dX7_ground_29 rfl ?_
      refine SW.iretR rfl rfl dX7_ground_32 ?_
      refine ⟨rfl, fun z => absurd ⟨⟨i, i1, rfl⟩, j, j1, rfl⟩ z, fun i' j' h' h'' e e' => ?_⟩
      rw [nI_eq (by omega) (by omega)] at e e'
      subst e
      subst e'
      rfl
    · refine SW.iload_n (q := 1) (i := 1) dX7_ground_0 rfl rfl rfl ?_
      refine SW.iconst (q := 2) (v := 0) dX7_ground_1 (by decide) rfl ?_
      refine SW.ldc (q := 4) kX7_81 dX7_ground_2 rfl ?_
      refine SW.sF (q := 7) (C_X7_within) vX7_82 (by decide) rfl rfl (Nat.le_of_ble_eq_true rfl) dX7_ground_4 rfl ?_
      refine SW.if_eq (q := 10) (tgt := 20) dX7_ground_7 (by decide) rfl (fun c7 => absurd c7 (((W _).mpr ⟨i, by omega, i1, rfl⟩))) (fun _ => ?_)
      refine SW.iload_n (q := 11) (i := 2) dX7_ground_10 rfl rfl rfl ?_
      refine SW.iconst (q := 12) (v := 0) dX7_ground_11 (by decide) rfl ?_
      refine SW.ldc (q := 14) kX7_81 dX7_ground_12 rfl ?_
      refine SW.sF (q := 17) (C_X7_within) vX7_82 (by decide) rfl rfl (Nat.le_of_ble_eq_true rfl) dX7_ground_14 rfl ?_
      refine SW.if_ne (q := 20) (tgt := 23) dX7_ground_17 (by decide) rfl (fun c17 => absurd ((Classical.byContradiction fun z => hy (by obtain ⟨j, _, j2, j3⟩ := (W _).mp z; exact ⟨j, j2, j3⟩))) c17) (fun _ => ?_)
      refine SW.bipush (q := 22) (v := (-2)) dX7_ground_20 (by decide) rfl ?_
      refine SW.iretR rfl rfl dX7_ground_22 ?_
      exact ⟨rfl, fun _ => rfl, fun i j h1 h2 e e' => absurd ⟨j, h2, e'⟩ hy⟩
  · refine SW.iload_n (q := 1) (i := 1) dX7_ground_0 rfl rfl rfl ?_
    refine SW.iconst (q := 2) (v := 0) dX7_ground_1 (by decide) rfl ?_
    refine SW.ldc (q := 4) kX7_81 dX7_ground_2 rfl ?_
    refine SW.sF (q := 7) (C_X7_within) vX7_82 (by decide) rfl rfl (Nat.le_of_ble_eq_true rfl) dX7_ground_4 rfl ?_
    refine SW.if_eq (q := 10) (tgt := 20) dX7_ground_7 (by decide) rfl (fun _ => ?_) (fun c7 => absurd ((Classical.byContradiction fun z => hx (by obtain ⟨j, _, j2, j3⟩ := (W _).mp z; exact ⟨j, j2, j3⟩))) c7)
    refine SW.bipush (q := 22) (v := (-2)) dX7_ground_20 (by decide) rfl ?_
    refine SW.iretR rfl rfl dX7_ground_22 ?_
    exact ⟨rfl, fun _ => rfl, fun i j h1 h2 e e' => absurd ⟨i, h1, e⟩ hx⟩
theorem C_X7_undo (hI : cI_ n a b c sea g br wn k σ) :
    sw_Mi X 2 mX7_undo [.ref (sw_ad X 0)] σ (fun v u => fc_ σ u ∧ ce_ σ u ∧ (c = 0 → v = -1 ∧ cI_ n a b c sea g br wn k u) ∧ (0 < c → v = nI (c - 1) ∧ cI_ n a b (c - 1) sea g br wn (min k 1) u)) := by
  have hI0 := hI
  obtain ⟨hK, hk, k4, i1, -⟩ := hI
  have ec := hK.2.2.1.1
  have c30 := hK.2.2.1.2.1
  refine sw_ME.ofF (by decide +kernel) rfl (Nat.le_of_ble_eq_true rfl) rfl ?_
  by_cases hc : c = 0
  · refine SW.aload_n (q := 1) (i := 0) dX7_undo_0 rfl rfl rfl ?_
    refine SW.getR (q := 4) (i := 0) (j := 1) fX7_12 rfl rfl dX7_undo_1 rfl ?_
    refine SW.getI (q := 7) (i := 1) fX7_107 rfl rfl dX7_undo_4 rfl ?_
    refine SW.if_gt (q := 10) (tgt := 12) dX7_undo_7 (by decide) rfl (fun c7 => absurd c7 ((by rw [ec, hc]; decide))) (fun _ => ?_)
    refine SW.iconst (q := 11) (v := (-1)) dX7_undo_10 (by decide) rfl ?_
    refine SW.iretR rfl rfl dX7_undo_11 ?_
    exact ⟨fc_rf, ce_rf, fun _ => ⟨rfl, hI0⟩, fun z => by omega⟩
  · have e1 : nI c - 1 = nI (c - 1) := nI_pr (by omega)
    refine SW.aload_n (q := 1) (i := 0) dX7_undo_0 rfl rfl rfl ?_
    refine SW.getR (q := 4) (i := 0) (j := 1) fX7_12 rfl rfl dX7_undo_1 rfl ?_
    refine SW.getI (q := 7) (i := 1) fX7_107 rfl rfl dX7_undo_4 rfl ?_
    refine SW.if_gt (q := 10) (tgt := 12) dX7_undo_7 (by decide) rfl (fun _ => ?_) (fun c7 => absurd ((by rw [ec]; exact Int32.not_le.mp (nI_ge (a := 0) (by omega) (by omega)))) c7)
    refine SW.aload_n (q := 13) (i := 0) dX7_undo_12 rfl rfl rfl ?_
    refine SW.getR (q := 16) (i := 0) (j := 1) fX7_12 rfl rfl dX7_undo_13 rfl ?_
    refine SW.dup (q := 17) dX7_undo_16 rfl rfl ?_
    refine SW.getI (q := 20) (i := 1) fX7_107 rfl rfl dX7_undo_17 rfl ?_
    refine SW.iconst (q := 21) (v := 1) dX7_undo_20 (by decide) rfl ?_
    refine SW.isub (q := 22) dX7_undo_21 rfl ?_
    refine SW.putI (q := 25) (i := 1) pX7_107 rfl rfl dX7_undo_22 rfl ?_
    rw [ec, e1]
    have f1 : fr_ [0, 1] σ (sw_up (sw_up σ 1 5 (nI (c - 1))) 0 8 (sw_min (sw_up σ 1 5 (nI (c - 1)) 0 8) 1)) := fr_up (fr_up fr_rf (by decide)) (by decide)
    refine SW.aload_n (q := 26) (i := 0) dX7_undo_25 rfl rfl rfl ?_
    refine SW.iconst (q := 27) (v := 1) dX7_undo_26 (by decide) rfl ?_
    refine SW.cG (q := 30) (C_X7_keepUpTo) vX7_78 (by decide) rfl rfl rfl rfl (Nat.le_of_ble_eq_true rfl) dX7_undo_27 rfl ?_
    refine SW.aload_n (q := 31) (i := 0) dX7_undo_30 rfl rfl rfl ?_
    refine SW.getR (q := 34) (i := 0) (j := 1) fX7_12 rfl rfl dX7_undo_31 rfl ?_
    refine SW.getI (q := 37) (i := 1) fX7_107 rfl rfl dX7_undo_34 rfl ?_
    refine SW.iretR rfl rfl dX7_undo_37 ?_
    refine ⟨fc_fr f1 (by decide), ⟨by rw [sw_un (by decide), sw_o1 (by decide)], congrFun (f1 33 (by decide)) 1, f1 34 (by decide), f1 35 (by decide), f1 36 (by decide)⟩, fun z => absurd z hc, fun _ => ⟨by rw [sw_un (by decide), sw_i1], ck_s ?_, ?_, by omega, fun z => ?_, fun z => by omega, fun z => by omega, fun z => by omega⟩⟩
    · obtain ⟨⟨n4, n24, q1, q2⟩, ⟨q3, q4, q5, q6⟩, ⟨q7, q8⟩, q9, q10⟩ := hK
      refine ⟨⟨n4, n24, ?_, ?_⟩, ⟨?_, q4, ?_, q6⟩, ⟨?_, ?_⟩, ?_, ?_⟩
      · rw [sw_o1 (by decide)]; exact q1
      · rw [sw_o1 (by decide)]; exact q2
      · rw [sw_o1 (by decide)]; exact q3
      · rw [sw_o1 (by decide)]; exact q5
      · rw [sw_i1]
      · unfold gr_chs; rw [sw_un (by decide), sw_un (by decide)]; exact ⟨by omega, fun k hk => q8.2 k (by omega)⟩
      · rw [sw_un (by decide)]; exact q9
      · rw [sw_un (by decide)]; exact q10
    · rw [sw_i1, sw_un (by decide), hk, show (1 : Int32) = nI 1 from rfl, sw_min_N (by omega) (by omega)]
    · unfold cs_1
      rw [f1 37 (by decide), f1 38 (by decide), f1 39 (by decide), sw_un (by decide), sw_o1 (by decide)]
      exact i1 (by omega)
end CSET
