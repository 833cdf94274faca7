/-! the reference's own methods: places, lakes, towns -/
def mQ_ (n a b c sea g br wn : Nat) (σ u : sw_Sg) : Prop := fm_ σ u ∧ me_ σ u ∧ mL_ n a b c sea g br wn u
section MMETH2
variable {X : sw_X} {σ τ u : sw_Sg} {x y v w st what : Int32} {n a b c sea g br wn k s M p : Nat} {L : List Nat}
theorem ms_.fr {l ks : List Nat} (z : ms_ n a b c sea g br wn τ) (hf : fr_ l τ u) (hs : fs_ ks τ u) (h : ∀ i ∈ [60, 61, 62, 63, 64, 65, 66, 67, 69, 70, 71, 72, 73, 74], i ∉ l) (h2 : ∀ i ∈ [0, 19, 21, 22, 23], i ∉ ks) : ms_ n a b c sea g br wn u := by
  unfold ms_ ct_L ww_F tw_row mc_T
  rw [hs 0 (h2 0 (by decide)), hs 19 (h2 19 (by decide)), hs 21 (h2 21 (by decide)), hs 22 (h2 22 (by decide)), hs 23 (h2 23 (by decide)), hf 60 (h 60 (by decide)), hf 61 (h 61 (by decide)), hf 62 (h 62 (by decide)), hf 63 (h 63 (by decide)), hf 64 (h 64 (by decide)), hf 65 (h 65 (by decide)), hf 66 (h 66 (by decide)), hf 67 (h 67 (by decide)), hf 69 (h 69 (by decide)), hf 70 (h 70 (by decide)), hf 71 (h 71 (by decide)), hf 72 (h 72 (by decide)), hf 73 (h 73 (by decide)), hf 74 (h 74 (by decide))]
  exact z
theorem mL_.fr {l : List Nat} (z : mL_ n a b c sea g br wn τ) (hf : fr_ l τ u) (h : ∀ i ∈ [59, 60, 61, 62, 63, 64, 65, 66, 67, 69, 70, 71, 72, 73, 74], i ∉ l) : mL_ n a b c sea g br wn u := by
  have h59 : u 59 = τ 59 := hf 59 (h 59 (by decide))
  have hs : fs_ [] τ u := fun j _ => by rw [h59]
  exact ⟨z.1.fr hf hs (fun i hi => h i (by revert hi; revert i; decide)) (by decide), by rw [h59]; exact z.2.1, z.2.2.fr hf hs (fun i hi => h i (by revert hi; revert i; decide)) (by decide)⟩
theorem mpl_ (n4 : 4 ≤ n) (n24 : n ≤ 24) : (¬ sw_wi x 0 (nI (n * n - 1)) = 0) ↔ ∃ q, q < n * n ∧ x = nI q := by
  have h576 := gr_576 n24
  have h16 : 4 * 4 ≤ n * n := Nat.mul_le_mul n4 n4
  have := wi_N (x := x) (lo := 0) (hi := n * n - 1) (by omega) (by omega)
  refine this.trans ⟨?_, ?_⟩
  · rintro ⟨i, -, i1, i2⟩; exact ⟨i, by omega, i2⟩
  · rintro ⟨i, i1, i2⟩; exact ⟨i, by omega, by omega, i2⟩
theorem mL_L (hL : mL_ n a b c sea g br wn τ) : τ 59 19 = nI (ct_L n g wn 64 70 69 τ).length ∧ (ct_L n g wn 64 70 69 τ).length ≤ 6 ∧ ∀ i, i < (ct_L n g wn 64 70 69 τ).length → τ 71 i = nI (ct_p (ct_L n g wn 64 70 69 τ) i) ∧ ct_p (ct_L n g wn 64 70 69 τ) i < n * n ∧ τ 70 (ct_p (ct_L n g wn 64 70 69 τ) i) = 8 := by
  obtain ⟨hK, -, h, -, -, ⟨c2, c3⟩, -⟩ := hL
  refine ⟨c2, Nat.le_trans ct_len hK.2.2.2.2.2, fun i hi => ?_⟩
  have e := ct_p_e hi
  obtain ⟨k8, kn⟩ := ct_8 e
  exact ⟨c3 i _ e, kn, k8⟩
theorem mL_all (hL : mL_ n a b c sea g br wn τ) (hp : p < n * n) : sw_F X 0 mX8_isAll [.ref (sw_ad X 59), .int (nI p)] τ (sg_ (τ 70 p) (p ∈ ct_L n g wn 64 70 69 τ) (τ 74 p)) τ := by
  have h576 := gr_576 hL.1.1.2.1
  obtain ⟨hK, -, h, -, ⟨T, lv, od, D, w⟩, ⟨c2, c3⟩, -⟩ := hL
  refine C_X8_isAll c2 (Nat.le_trans ct_len hK.2.2.2.2.2) c3 (fun t z e => by have := (ct_ok.1 t z e).1; omega) (fun i j q hij e e' => ?_) (by rw [(w.2 p hp).2.2.2.2.2]; exact wk_in _ _ _ _ _) rfl (by omega)
  have := ct_ok.2 i j q q hij e e'
  rw [gr_dist_0] at this
  have := hK.2.2.2.1.2.2.2.2.1
  omega
theorem C_X8_is (hI : mI_ n a b c sea g br wn σ) :
    sw_Mi X 5 mX8_is [.ref (sw_ad X 59), .int x] σ (fun v u => ((¬ ∃ q, q < n * n ∧ x = nI q) → v = -1 ∧ u = σ) ∧ ∀ q, q < n * n → x = nI q → mQ_ n a b c sea g br wn σ u ∧ v = sg_ (u 70 q) (q ∈ ct_L n g wn 64 70 69 u) (u 74 q)) := by
  have hM : gr_M σ n := hI.1.1
  have n24 := hM.2.1
  have h576 := gr_576 n24
  have W := mpl_ (x := x) hM.1 n24
  refine sw_ME.ofF (by decide +kernel) rfl (Nat.le_of_ble_eq_true rfl) rfl ?_
  by_cases hp : ∃ q, q < n * n ∧ x = nI q
  · obtain ⟨q, hq, rfl⟩ := hp
    refine SW.aload_n (q := 1) (i := 0) dX8_is_0 rfl rfl rfl ?_
    refine SW.iload_n (q := 2) (i := 1) dX8_is_1 rfl rfl rfl ?_
    refine SW.cF (q := 5) (C_X8_isPlace hM) vX8_104 (by decide) rfl rfl rfl rfl (Nat.le_of_ble_eq_true rfl) dX8_is_2 rfl ?_
    refine SW.if_ne (q := 8) (tgt := 10) dX8_is_5 (by decide) rfl (fun _ => ?_) (fun c5 => absurd c5 ((W.mpr ⟨q, hq, rfl⟩)))
    refine SW.aload_n (q := 11) (i := 0) dX8_is_10 rfl rfl rfl ?_
    refine SW.cV (q := 14) (C_X8_lay hI) vX8_177 (by decide) rfl rfl rfl rfl (Nat.le_of_ble_eq_true rfl) dX8_is_11 rfl (fun u11 r11 => ?_)
    obtain ⟨g1, g2, g3⟩ := r11
    refine SW.aload_n (q := 15) (i := 0) dX8_is_14 rfl rfl rfl ?_
    refine SW.iload_n (q := 16) (i := 1) dX8_is_15 rfl rfl rfl ?_
    refine SW.cF (q := 19) (mL_all (p := q) g3 hq) vX8_183 (by decide) rfl rfl rfl rfl (Nat.le_of_ble_eq_true rfl) dX8_is_16 rfl ?_
    refine SW.iretR rfl rfl dX8_is_19 ?_
    exact ⟨fun z => absurd ⟨q, hq, rfl⟩ z, fun q' h' e => by rw [nI_eq (by omega) (by omega)] at e; subst e; exact ⟨⟨fm_fr g1 (by decide), me_fr g1 g2 (by decide) (by decide), g3⟩, rfl⟩⟩
  · refine SW.aload_n (q := 1) (i := 0) dX8_is_0 rfl rfl rfl ?_
    refine SW.iload_n (q := 2) (i := 1) dX8_is_1 rfl rfl rfl ?_
    refine SW.cF (q := 5) (C_X8_isPlace hM) vX8_104 (by decide) rfl rfl rfl rfl (Nat.le_of_ble_eq_true rfl) dX8_is_2 rfl ?_
    refine SW.if_ne (q := 8) (tgt := 10) dX8_is_5 (by decide) rfl (fun c5 => absurd ((Classical.byContradiction fun z => hp (W.mp z))) c5) (fun _ => ?_)
    refine SW.iconst (q := 9) (v := (-1)) dX8_is_8 (by decide) rfl ?_
    refine SW.iretR rfl rfl dX8_is_9 ?_
    exact ⟨fun _ => ⟨rfl, rfl⟩, fun q h e => absurd ⟨q, h, e⟩ hp⟩
theorem C_X8_roads (hI : mI_ n a b c sea g br wn σ) :
    sw_Mi X 5 mX8_roads [.ref (sw_ad X 59), .int x] σ (fun v u => ((¬ ∃ q, q < n * n ∧ x = nI q) → v = -1 ∧ u = σ) ∧ ∀ q, q < n * n → x = nI q → mQ_ n a b c sea g br wn σ u ∧ v = u 74 q) := by
  have hM : gr_M σ n := hI.1.1
  have n24 := hM.2.1
  have h576 := gr_576 n24
  have W := mpl_ (x := x) hM.1 n24
  refine sw_ME.ofF (by decide +kernel) rfl (Nat.le_of_ble_eq_true rfl) rfl ?_
  by_cases hp : ∃ q, q < n * n ∧ x = nI q
  · obtain ⟨q, hq, rfl⟩ := hp
    refine SW.aload_n (q := 1) (i := 0) dX8_roads_0 rfl rfl rfl ?_
    refine SW.iload_n (q := 2) (i := 1) dX8_roads_1 rfl rfl rfl ?_
    refine SW.cF (q := 5) (C_X8_isPlace hM) vX8_104 (by decide) rfl rfl rfl rfl (Nat.le_of_ble_eq_true rfl) dX8_roads_2 rfl ?_
    refine SW.if_ne (q := 8) (tgt := 10) dX8_roads_5 (by decide) rfl (fun _ => ?_) (fun c5 => absurd c5 ((W.mpr ⟨q, hq, rfl⟩)))
    refine SW.aload_n (q := 11) (i := 0) dX8_roads_10 rfl rfl rfl ?_
    refine SW.cV (q := 14) (C_X8_lay hI) vX8_177 (by decide) rfl rfl rfl rfl (Nat.le_of_ble_eq_true rfl) dX8_roads_11 rfl (fun u11 r11 => ?_)
    obtain ⟨g1, g2, g3⟩ := r11
    refine SW.aload_n (q := 15) (i := 0) dX8_roads_14 rfl rfl rfl ?_
    refine SW.getR (q := 18) (i := 59) (j := 74) fX8_56 rfl rfl dX8_roads_15 rfl ?_
    refine SW.iload_n (q := 19) (i := 1) dX8_roads_18 rfl rfl rfl ?_
    refine SW.ialdN (q := 20) (k := q) rfl (rfl) (by omega) (by decide) dX8_roads_19 rfl ?_
    refine SW.iretR rfl rfl dX8_roads_20 ?_
    exact ⟨fun z => absurd ⟨q, hq, rfl⟩ z, fun q' h' e => by rw [nI_eq (by omega) (by omega)] at e; subst e; exact ⟨⟨fm_fr g1 (by decide), me_fr g1 g2 (by decide) (by decide), g3⟩, rfl⟩⟩
  · refine SW.aload_n (q := 1) (i := 0) dX8_roads_0 rfl rfl rfl ?_
    refine SW.iload_n (q := 2) (i := 1) dX8_roads_1 rfl rfl rfl ?_
    refine SW.cF (q := 5) (C_X8_isPlace hM) vX8_104 (by decide) rfl rfl rfl rfl (Nat.le_of_ble_eq_true rfl) dX8_roads_2 rfl ?_
    refine SW.if_ne (q := 8) (tgt := 10) dX8_roads_5 (by decide) rfl (fun c5 => absurd ((Classical.byContradiction fun z => hp (W.mp z))) c5) (fun _ => ?_)
    refine SW.iconst (q := 9) (v := (-1)) dX8_roads_8 (by decide) rfl ?_
    refine SW.iretR rfl rfl dX8_roads_9 ?_
    exact ⟨fun _ => ⟨rfl, rfl⟩, fun q h e => absurd ⟨q, h, e⟩ hp⟩
theorem lm_eq {kd lv : Nat → Int32} {m : Nat → Nat} (n24 : n ≤ 24) (hm : lm_F n kd lv m τ) {q p : Nat} (hq : q < n * n) (hp : p < n * n) (hk : kd p = 2) : τ 77 q = τ 77 p ↔ lk_c n kd lv p q := by
  have h576 := gr_576 n24
  obtain ⟨a1, a2, a3⟩ := (hm p hp).2 hk
  have mp := lk_lt hp a2
  by_cases hkq : kd q = 2
  · obtain ⟨b1, b2, b3⟩ := (hm q hq).2 hkq
    have mq := lk_lt hq b2
    rw [a1, b1, nI_eq (by omega) (by omega)]
    constructor
    · intro e
      rw [e] at b2
      exact lk_tr a2 (lk_sym hq b2)
    · intro hc
      have h1 := a3 _ (lk_tr hc b2)
      have h2 := b3 _ (lk_tr (lk_sym hp hc) a2)
      omega
  · rw [(hm q hq).1 hkq, a1]
    exact ⟨fun e => absurd e.symm (nI_n6 (by omega)), fun hc => absurd (lk_k2 hc).1 hkq⟩
theorem lm_self {kd lv : Nat → Int32} {m : Nat → Nat} (n24 : n ≤ 24) (hm : lm_F n kd lv m τ) {p : Nat} (hp : p < n * n) : τ 77 p = nI p ↔ lk_m n kd lv p := by
  have h576 := gr_576 n24
  by_cases hk : kd p = 2
  · obtain ⟨a1, a2, a3⟩ := (hm p hp).2 hk
    have mp := lk_lt hp a2
    rw [a1, nI_eq (by omega) (by omega)]
    constructor
    · intro e; exact ⟨hk, fun q hq => by have := a3 q hq; omega⟩
    · intro z
      have h1 := z.2 _ a2
      have h2 := a3 _ (lk_rf hk)
      omega
  · rw [(hm p hp).1 hk]
    exact ⟨fun e => absurd e.symm (nI_n6 (by omega)), fun z => absurd z.1 hk⟩
theorem C_X8_lakes (hI : mI_ n a b c sea g br wn σ) :
    sw_Mi X 5 mX8_lakes [.ref (sw_ad X 59)] σ (fun v u => mQ_ n a b c sea g br wn σ u ∧ v = nI (lk_n (lk_m n (u 70) (u 65)) (n * n))) := by
  have n24 := hI.1.1.2.1
  have h576 := gr_576 n24
  refine sw_ME.ofF (by decide +kernel) rfl (Nat.le_of_ble_eq_true rfl) rfl ?_
  have loop : ∀ (τ : sw_Sg) (m : Nat → Nat), mQ_ n a b c sea g br wn σ τ → lm_F n (τ 70) (τ 65) m τ → ∀ (k p : Nat), p + k = n * n → SW X 5 mX8_lakes sw_E0 (sw_Ri (fun v u => mQ_ n a b c sea g br wn σ u ∧ v = nI (lk_n (lk_m n (u 70) (u 65)) (n * n)))) 12 [.ref (sw_ad X 59), .int (nI (lk_n (lk_m n (τ 70) (τ 65)) p)), .int (nI p)] [] τ := by
    intro τ m hQ hm k
    have en : τ 59 1 = nI n := hQ.2.2.1.1.2.2
    induction k with
    | zero =>
      intro p hp
      obtain rfl : p = n * n := by omega
      refine SW.iload_n (q := 13) (i := 2) dX8_lakes_12 rfl rfl rfl ?_
      refine SW.aload_n (q := 14) (i := 0) dX8_lakes_13 rfl rfl rfl ?_
      refine SW.getI (q := 17) (i := 59) fX8_7 rfl rfl dX8_lakes_14 rfl ?_
      refine SW.aload_n (q := 18) (i := 0) dX8_lakes_17 rfl rfl rfl ?_
      refine SW.getI (q := 21) (i := 59) fX8_7 rfl rfl dX8_lakes_18 rfl ?_
      refine SW.imul (q := 22) dX8_lakes_21 rfl ?_
      refine SW.icmp_ge (q := 25) (tgt := 49) dX8_lakes_22 (by decide) rfl (fun _ => ?_) (fun c22 => absurd ((by rw [en, pk_mul]; exact Int32.le_refl _)) c22)
      refine SW.iload_n (q := 50) (i := 1) dX8_lakes_49 rfl rfl rfl ?_
      refine SW.iretR rfl rfl dX8_lakes_50 ?_
      exact ⟨hQ, rfl⟩
    | succ k ih =>
      intro p hp
      have nx := ih (p + 1) (by omega)
      have S := lm_self n24 hm (p := p) (by omega)
      by_cases hc : lk_m n (τ 70) (τ 65) p
      · rw [lk_n_y hc] at nx
        refine SW.iload_n (q := 13) (i := 2) dX8_lakes_12 rfl rfl rfl ?_
        refine SW.aload_n (q := 14) (i := 0) dX8_lakes_13 rfl rfl rfl ?_
        refine SW.getI (q := 17) (i := 59) fX8_7 rfl rfl dX8_lakes_14 rfl ?_
        refine SW.aload_n (q := 18) (i := 0) dX8_lakes_17 rfl rfl rfl ?_
        refine SW.getI (q := 21) (i := 59) fX8_7 rfl rfl dX8_lakes_18 rfl ?_
        refine SW.imul (q := 22) dX8_lakes_21 rfl ?_
        refine SW.icmp_ge (q := 25) (tgt := 49) dX8_lakes_22 (by decide) rfl (fun c22 => absurd c22 ((by rw [en, pk_mul]; exact nI_ge (by omega) (by omega)))) (fun _ => ?_)
        refine SW.iload_n (q := 26) (i := 1) dX8_lakes_25 rfl rfl rfl ?_
        refine SW.aload_n (q := 27) (i := 0) dX8_lakes_26 rfl rfl rfl ?_
        refine SW.getR (q := 30) (i := 59) (j := 77) fX8_66 rfl rfl dX8_lakes_27 rfl ?_
        refine SW.iload_n (q := 31) (i := 2) dX8_lakes_30 rfl rfl rfl ?_
        refine SW.ialdN (q := 32) (k := p) rfl (rfl) (by omega) (by decide) dX8_lakes_31 rfl ?_
        refine SW.iload_n (q := 33) (i := 2) dX8_lakes_32 rfl rfl rfl ?_
        refine SW.icmp_ne (q := 36) (tgt := 40) dX8_lakes_33 (by decide) rfl (fun c33 => absurd ((S.mpr hc)) c33) (fun _ => ?_)
        refine SW.iconst (q := 37) (v := 1) dX8_lakes_36 (by decide) rfl ?_
        refine SW.goto (q := 41) dX8_lakes_37 (by decide) ?_
        refine SW.iadd (q := 42) dX8_lakes_41 rfl ?_
        refine SW.istore_n (q := 43) (i := 1) dX8_lakes_42 rfl (by decide) rfl ?_
        refine SW.iinc (q := 46) (v := _ + 1) dX8_lakes_43 rfl rfl (by decide) rfl ?_
        refine SW.goto (q := 12) dX8_lakes_46 (by decide) ?_
        exact SW.eq (by rw [nI_1, nI_1]; rfl) rfl rfl nx
      · rw [lk_n_n hc] at nx
        refine SW.iload_n (q := 13) (i := 2) dX8_lakes_12 rfl rfl rfl ?_
        refine SW.aload_n (q := 14) (i := 0) dX8_lakes_13 rfl rfl rfl ?_
        refine SW.getI (q := 17) (i := 59) fX8_7 rfl rfl dX8_lakes_14 rfl ?_
        refine SW.aload_n (q := 18) (i := 0) dX8_lakes_17 rfl rfl rfl ?_
        refine SW.getI (q := 21) (i := 59) fX8_7 rfl rfl dX8_lakes_18 rfl ?_
        refine SW.imul (q := 22) dX8_lakes_21 rfl ?_
        refine SW.icmp_ge (q := 25) (tgt := 49) dX8_lakes_22 (by decide) rfl (fun c22 => absurd c22 ((by rw [en, pk_mul]; exact nI_ge (by omega) (by omega)))) (fun _ => ?_)
        refine SW.iload_n (q := 26) (i := 1) dX8_lakes_25 rfl rfl rfl ?_
        refine SW.aload_n (q := 27) (i := 0) dX8_lakes_26 rfl rfl rfl ?_
        refine SW.getR (q := 30) (i := 59) (j := 77) fX8_66 rfl rfl dX8_lakes_27 rfl ?_
        refine SW.iload_n (q := 31) (i := 2) dX8_lakes_30 rfl rfl rfl ?_
        refine SW.ialdN (q := 32) (k := p) rfl (rfl) (by omega) (by decide) dX8_lakes_31 rfl ?_
        refine SW.iload_n (q := 33) (i := 2) dX8_lakes_32 rfl rfl rfl ?_
        refine SW.icmp_ne (q := 36) (tgt := 40) dX8_lakes_33 (by decide) rfl (fun _ => ?_) (fun c33 => absurd c33 ((fun z => hc (S.mp z))))
        refine SW.iconst (q := 41) (v := 0) dX8_lakes_40 (by decide) rfl ?_
        refine SW.iadd (q := 42) dX8_lakes_41 rfl ?_
        refine SW.istore_n (q := 43) (i := 1) dX8_lakes_42 rfl (by decide) rfl ?_
        refine SW.iinc (q := 46) (v := _ + 1) dX8_lakes_43 rfl rfl (by decide) rfl ?_
        refine SW.goto (q := 12) dX8_lakes_46 (by decide) ?_
        exact SW.eq (by rw [nI_1, Int32.add_zero]; rfl) rfl rfl nx
  refine SW.aload_n (q := 1) (i := 0) dX8_lakes_0 rfl rfl rfl ?_
  refine SW.cV (q := 4) (C_X8_lay hI) vX8_177 (by decide) rfl rfl rfl rfl (Nat.le_of_ble_eq_true rfl) dX8_lakes_1 rfl (fun u1 r1 => ?_)
  obtain ⟨g1, g2, g3⟩ := r1
  refine SW.aload_n (q := 5) (i := 0) dX8_lakes_4 rfl rfl rfl ?_
  refine SW.cV (q := 8) (C_X8_layMarks (n := n) (kd := u1 70) (lv := u1 65) g3.1.1 rfl rfl) vX8_186 (by decide) rfl rfl rfl rfl (Nat.le_of_ble_eq_true rfl) dX8_lakes_5 rfl (fun u5 r5 => ?_)
  obtain ⟨v1, m, v2⟩ := r5
  refine SW.iconst (q := 9) (v := 0) dX8_lakes_8 (by decide) rfl ?_
  refine SW.istore_n (q := 10) (i := 1) dX8_lakes_9 rfl (by decide) rfl ?_
  refine SW.iconst (q := 11) (v := 0) dX8_lakes_10 (by decide) rfl ?_
  refine SW.istore_n (q := 12) (i := 2) dX8_lakes_11 rfl (by decide) rfl ?_
  refine loop u5 m ⟨fun i hi => ?_, ?_, g3.fr v1 (by decide)⟩ (by rw [v1 70 (by decide), v1 65 (by decide)]; exact v2) (n * n) 0 (by omega)
  · rw [v1 i (by simp; omega)]; exact fm_fr g1 (by decide) i hi
  · have := me_fr g1 g2 (by decide) (by decide)
    unfold me_; rw [v1 59 (by decide), v1 60 (by decide), v1 61 (by decide), v1 62 (by decide), v1 63 (by decide)]; exact this
theorem C_X8_lake (hI : mI_ n a b c sea g br wn σ) :
    sw_Mi X 5 mX8_lake [.ref (sw_ad X 59), .int x] σ (fun v u => ((¬ ∃ q, q < n * n ∧ x = nI q) → v = -1 ∧ u = σ) ∧ ∀ q, q < n * n → x = nI q → mQ_ n a b c sea g br wn σ u ∧ v = nI (lk_n (lk_c n (u 70) (u 65) q) (n * n))) := by
  have hM : gr_M σ n := hI.1.1
  have n24 := hM.2.1
  have h576 := gr_576 n24
  have W := mpl_ (x := x) hM.1 n24
  refine sw_ME.ofF (by decide +kernel) rfl (Nat.le_of_ble_eq_true rfl) rfl ?_
  by_cases hp : ∃ q, q < n * n ∧ x = nI q
  · obtain ⟨q, hq, rfl⟩ := hp
    have loop : ∀ (τ : sw_Sg) (m : Nat → Nat), mQ_ n a b c sea g br wn σ τ → lm_F n (τ 70) (τ 65) m τ → ∀ (k p : Nat), p + k = n * n → SW X 5 mX8_lake sw_E0 (sw_Ri (fun v u => ((¬ ∃ q', q' < n * n ∧ nI q = nI q') → v = -1 ∧ u = σ) ∧ ∀ q', q' < n * n → nI q = nI q' → mQ_ n a b c sea g br wn σ u ∧ v = nI (lk_n (lk_c n (u 70) (u 65) q') (n * n)))) 22 [.ref (sw_ad X 59), .int (nI q), .int (nI (lk_n (lk_c n (τ 70) (τ 65) q) p)), .int (nI p)] [] τ := by
      intro τ m hQ hm k
      have en : τ 59 1 = nI n := hQ.2.2.1.1.2.2
      induction k with
      | zero =>
        intro p hp
        obtain rfl : p = n * n := by omega
        refine SW.iload_n (q := 23) (i := 3) dX8_lake_22 rfl rfl rfl ?_
        refine SW.aload_n (q := 24) (i := 0) dX8_lake_23 rfl rfl rfl ?_
        refine SW.getI (q := 27) (i := 59) fX8_7 rfl rfl dX8_lake_24 rfl ?_
        refine SW.aload_n (q := 28) (i := 0) dX8_lake_27 rfl rfl rfl ?_
        refine SW.getI (q := 31) (i := 59) fX8_7 rfl rfl dX8_lake_28 rfl ?_
        refine SW.imul (q := 32) dX8_lake_31 rfl ?_
        refine SW.icmp_ge (q := 35) (tgt := 73) dX8_lake_32 (by decide) rfl (fun _ => ?_) (fun c32 => absurd ((by rw [en, pk_mul]; exact Int32.le_refl _)) c32)
        refine SW.iload_n (q := 74) (i := 2) dX8_lake_73 rfl rfl rfl ?_
        refine SW.iretR rfl rfl dX8_lake_74 ?_
        exact ⟨fun z => absurd ⟨q, hq, rfl⟩ z, fun q' h' e => by rw [nI_eq (by omega) (by omega)] at e; subst e; exact ⟨hQ, rfl⟩⟩
      | succ k ih =>
        intro p hp
        have nx := ih (p + 1) (by omega)
        by_cases hk : τ 70 q = 2
        · have S := lm_eq n24 hm (q := p) (p := q) (by omega) hq hk
          obtain ⟨a1, a2, -⟩ := (hm q hq).2 hk
          have mlt := lk_lt hq a2
          by_cases hc : lk_c n (τ 70) (τ 65) q p
          · rw [lk_n_y hc] at nx
            refine SW.iload_n (q := 23) (i := 3) dX8_lake_22 rfl rfl rfl ?_
            refine SW.aload_n (q := 24) (i := 0) dX8_lake_23 rfl rfl rfl ?_
            refine SW.getI (q := 27) (i := 59) fX8_7 rfl rfl dX8_lake_24 rfl ?_
            refine SW.aload_n (q := 28) (i := 0) dX8_lake_27 rfl rfl rfl ?_
            refine SW.getI (q := 31) (i := 59) fX8_7 rfl rfl dX8_lake_28 rfl ?_
            refine SW.imul (q := 32) dX8_lake_31 rfl ?_
            refine SW.icmp_ge (q := 35) (tgt := 73) dX8_lake_32 (by decide) rfl (fun c32 => absurd c32 ((by rw [en, pk_mul]; exact nI_ge (by omega) (by omega)))) (fun _ => ?_)
            refine SW.iload_n (q := 36) (i := 2) dX8_lake_35 rfl rfl rfl ?_
            refine SW.aload_n (q := 37) (i := 0) dX8_lake_36 rfl rfl rfl ?_
            refine SW.getR (q := 40) (i := 59) (j := 77) fX8_66 rfl rfl dX8_lake_37 rfl ?_
            refine SW.iload_n (q := 41) (i := 1) dX8_lake_40 rfl rfl rfl ?_
            refine SW.ialdN (q := 42) (k := q) rfl (rfl) (by omega) (by decide) dX8_lake_41 rfl ?_
            refine SW.if_lt (q := 45) (tgt := 64) dX8_lake_42 (by decide) rfl (fun c42 => absurd c42 ((by rw [a1]; exact nI_pos (by omega)))) (fun _ => ?_)
            refine SW.aload_n (q := 46) (i := 0) dX8_lake_45 rfl rfl rfl ?_
            refine SW.getR (q := 49) (i := 59) (j := 77) fX8_66 rfl rfl dX8_lake_46 rfl ?_
            refine SW.iload_n (q := 50) (i := 3) dX8_lake_49 rfl rfl rfl ?_
            refine SW.ialdN (q := 51) (k := p) rfl (rfl) (by omega) (by decide) dX8_lake_50 rfl ?_
            refine SW.aload_n (q := 52) (i := 0) dX8_lake_51 rfl rfl rfl ?_
            refine SW.getR (q := 55) (i := 59) (j := 77) fX8_66 rfl rfl dX8_lake_52 rfl ?_
            refine SW.iload_n (q := 56) (i := 1) dX8_lake_55 rfl rfl rfl ?_
            refine SW.ialdN (q := 57) (k := q) rfl (rfl) (by omega) (by decide) dX8_lake_56 rfl ?_
            refine SW.icmp_ne (q := 60) (tgt := 64) dX8_lake_57 (by decide) rfl (fun c57 => absurd ((S.mpr hc)) c57) (fun _ => ?_)
            refine SW.iconst (q := 61) (v := 1) dX8_lake_60 (by decide) rfl ?_
            refine SW.goto (q := 65) dX8_lake_61 (by decide) ?_
            refine SW.iadd (q := 66) dX8_lake_65 rfl ?_
            refine SW.istore_n (q := 67) (i := 2) dX8_lake_66 rfl (by decide) rfl ?_
            refine SW.iinc (q := 70) (v := _ + 1) dX8_lake_67 rfl rfl (by decide) rfl ?_
            refine SW.goto (q := 22) dX8_lake_70 (by decide) ?_
            exact SW.eq (by rw [nI_1, nI_1]; rfl) rfl rfl nx
          · rw [lk_n_n hc] at nx
            refine SW.iload_n (q := 23) (i := 3) dX8_lake_22 rfl rfl rfl ?_
            refine SW.aload_n (q := 24) (i := 0) dX8_lake_23 rfl rfl rfl ?_
            refine SW.getI (q := 27) (i := 59) fX8_7 rfl rfl dX8_lake_24 rfl ?_
            refine SW.aload_n (q := 28) (i := 0) dX8_lake_27 rfl rfl rfl ?_
            refine SW.getI (q := 31) (i := 59) fX8_7 rfl rfl dX8_lake_28 rfl ?_
            refine SW.imul (q := 32) dX8_lake_31 rfl ?_
            refine SW.icmp_ge (q := 35) (tgt := 73) dX8_lake_32 (by decide) rfl (fun c32 => absurd c32 ((by rw [en, pk_mul]; exact nI_ge (by omega) (by omega)))) (fun _ => ?_)
            refine SW.iload_n (q := 36) (i := 2) dX8_lake_35 rfl rfl rfl ?_
            refine SW.aload_n (q := 37) (i := 0) dX8_lake_36 rfl rfl rfl ?_
            refine SW.getR (q := 40) (i := 59) (j := 77) fX8_66 rfl rfl dX8_lake_37 rfl ?_
            refine SW.iload_n (q := 41) (i := 1) dX8_lake_40 rfl rfl rfl ?_
            refine SW.ialdN (q := 42) (k := q) rfl (rfl) (by omega) (by decide) dX8_lake_41 rfl ?_
            refine SW.if_lt (q := 45) (tgt := 64) dX8_lake_42 (by decide) rfl (fun c42 => absurd c42 ((by rw [a1]; exact nI_pos (by omega)))) (fun _ => ?_)
            refine SW.aload_n (q := 46) (i := 0) dX8_lake_45 rfl rfl rfl ?_
            refine SW.getR (q := 49) (i := 59) (j := 77) fX8_66 rfl rfl dX8_lake_46 rfl ?_
            refine SW.iload_n (q := 50) (i := 3) dX8_lake_49 rfl rfl rfl ?_
            refine SW.ialdN (q := 51) (k := p) rfl (rfl) (by omega) (by decide) dX8_lake_50 rfl ?_
            refine SW.aload_n (q := 52) (i := 0) dX8_lake_51 rfl rfl rfl ?_
            refine SW.getR (q := 55) (i := 59) (j := 77) fX8_66 rfl rfl dX8_lake_52 rfl ?_
            refine SW.iload_n (q := 56) (i := 1) dX8_lake_55 rfl rfl rfl ?_
            refine SW.ialdN (q := 57) (k := q) rfl (rfl) (by omega) (by decide) dX8_lake_56 rfl ?_
            refine SW.icmp_ne (q := 60) (tgt := 64) dX8_lake_57 (by decide) rfl (fun _ => ?_) (fun c57 => absurd c57 ((fun z => hc (S.mp z))))
            refine SW.iconst (q := 65) (v := 0) dX8_lake_64 (by decide) rfl ?_
            refine SW.iadd (q := 66) dX8_lake_65 rfl ?_
            refine SW.istore_n (q := 67) (i := 2) dX8_lake_66 rfl (by decide) rfl ?_
            refine SW.iinc (q := 70) (v := _ + 1) dX8_lake_67 rfl rfl (by decide) rfl ?_
            refine SW.goto (q := 22) dX8_lake_70 (by decide) ?_
            exact SW.eq (by rw [nI_1, Int32.add_zero]; rfl) rfl rfl nx
        · rw [lk_n_n (fun z => hk (lk_k1 z))] at nx
          refine SW.iload_n (q := 23) (i := 3) dX8_lake_22 rfl rfl rfl ?_
          refine SW.aload_n (q := 24) (i := 0) dX8_lake_23 rfl rfl rfl ?_
          refine SW.getI (q := 27) (i := 59) fX8_7 rfl rfl dX8_lake_24 rfl ?_
          refine SW.aload_n (q := 28) (i := 0) dX8_lake_27 rfl rfl rfl ?_
          refine SW.getI (q := 31) (i := 59) fX8_7 rfl rfl dX8_lake_28 rfl ?_
          refine SW.imul (q := 32) dX8_lake_31 rfl ?_
          refine SW.icmp_ge (q := 35) (tgt := 73) dX8_lake_32 (by decide) rfl (fun c32 => absurd c32 ((by rw [en, pk_mul]; exact nI_ge (by omega) (by omega)))) (fun _ => ?_)
          refine SW.iload_n (q := 36) (i := 2) dX8_lake_35 rfl rfl rfl ?_
          refine SW.aload_n (q := 37) (i := 0) dX8_lake_36 rfl rfl rfl ?_
          refine SW.getR (q := 40) (i := 59) (j := 77) fX8_66 rfl rfl dX8_lake_37 rfl ?_
          refine SW.iload_n (q := 41) (i := 1) dX8_lake_40 rfl rfl rfl ?_
          refine SW.ialdN (q := 42) (k := q) rfl (rfl) (by omega) (by decide) dX8_lake_41 rfl ?_
          refine SW.if_lt (q := 45) (tgt := 64) dX8_lake_42 (by decide) rfl (fun _ => ?_) (fun c42 => absurd ((by rw [(hm q hq).1 hk]; decide)) c42)
          refine SW.iconst (q := 65) (v := 0) dX8_lake_64 (by decide) rfl ?_
          refine SW.iadd (q := 66) dX8_lake_65 rfl ?_
          refine SW.istore_n (q := 67) (i := 2) dX8_lake_66 rfl (by decide) rfl ?_
          refine SW.iinc (q := 70) (v := _ + 1) dX8_lake_67 rfl rfl (by decide) rfl ?_
          refine SW.goto (q := 22) dX8_lake_70 (by decide) ?_
          exact SW.eq (by rw [nI_1, Int32.add_zero]; rfl) rfl rfl nx
    refine SW.aload_n (q := 1) (i := 0) dX8_lake_0 rfl rfl rfl ?_
    refine SW.iload_n (q := 2) (i := 1) dX8_lake_1 rfl rfl rfl ?_
    refine SW.cF (q := 5) (C_X8_isPlace hM) vX8_104 (by decide) rfl rfl rfl rfl (Nat.le_of_ble_eq_true rfl) dX8_lake_2 rfl ?_
    refine SW.if_ne (q := 8) (tgt := 10) dX8_lake_5 (by decide) rfl (fun _ => ?_) (fun c5 => absurd c5 ((W.mpr ⟨q, hq, rfl⟩)))
    refine SW.aload_n (q := 11) (i := 0) dX8_lake_10 rfl rfl rfl ?_
    refine SW.cV (q := 14) (C_X8_lay hI) vX8_177 (by decide) rfl rfl rfl rfl (Nat.le_of_ble_eq_true rfl) dX8_lake_11 rfl (fun u11 r11 => ?_)
    obtain ⟨g1, g2, g3⟩ := r11
    refine SW.aload_n (q := 15) (i := 0) dX8_lake_14 rfl rfl rfl ?_
    refine SW.cV (q := 18) (C_X8_layMarks (n := n) (kd := u11 70) (lv := u11 65) g3.1.1 rfl rfl) vX8_186 (by decide) rfl rfl rfl rfl (Nat.le_of_ble_eq_true rfl) dX8_lake_15 rfl (fun u15 r15 => ?_)
    obtain ⟨v1, m, v2⟩ := r15
    refine SW.iconst (q := 19) (v := 0) dX8_lake_18 (by decide) rfl ?_
    refine SW.istore_n (q := 20) (i := 2) dX8_lake_19 rfl (by decide) rfl ?_
    refine SW.iconst (q := 21) (v := 0) dX8_lake_20 (by decide) rfl ?_
    refine SW.istore_n (q := 22) (i := 3) dX8_lake_21 rfl (by decide) rfl ?_
    refine loop u15 m ⟨fun i hi => ?_, ?_, g3.fr v1 (by decide)⟩ (by rw [v1 70 (by decide), v1 65 (by decide)]; exact v2) (n * n) 0 (by omega)
    · rw [v1 i (by simp; omega)]; exact fm_fr g1 (by decide) i hi
    · have := me_fr g1 g2 (by decide) (by decide)
      unfold me_; rw [v1 59 (by decide), v1 60 (by decide), v1 61 (by decide), v1 62 (by decide), v1 63 (by decide)]; exact this
  · refine SW.aload_n (q := 1) (i := 0) dX8_lake_0 rfl rfl rfl ?_
    refine SW.iload_n (q := 2) (i := 1) dX8_lake_1 rfl rfl rfl ?_
    refine SW.cF (q := 5) (C_X8_isPlace hM) vX8_104 (by decide) rfl rfl rfl rfl (Nat.le_of_ble_eq_true rfl) dX8_lake_2 rfl ?_
    refine SW.if_ne (q := 8) (tgt := 10) dX8_lake_5 (by decide) rfl (fun c5 => absurd ((Classical.byContradiction fun z => hp (W.mp z))) c5) (fun _ => ?_)
    refine SW.iconst (q := 9) (v := (-1)) dX8_lake_8 (by decide) rfl ?_
    refine SW.iretR rfl rfl dX8_lake_9 ?_
    exact ⟨fun _ => ⟨rfl, rfl⟩, fun q h e => absurd ⟨q, h, e⟩ hp⟩
end MMETH2
