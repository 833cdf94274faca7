/-! the class's own methods: towns, costs, ways, the net, what is told -/
theorem tn_wi {x : Int32} {m : Nat} (m6 : m ≤ 6) : (¬ sw_wi x 0 (nI m - 1) = 0) ↔ ∃ i, i < m ∧ x = nI i := by
  cases m with
  | zero =>
    constructor
    · intro z
      refine absurd ?_ z
      unfold sw_wi
      refine if_neg (fun y => ?_)
      have h1 := i_le.mp y.1
      have h2 := i_le.mp y.2
      have e1 : (0 : Int32).toInt = 0 := rfl
      have e2 : (nI 0 - 1).toInt = -1 := by decide
      omega
    · rintro ⟨i, i1, -⟩; omega
  | succ m =>
    rw [nI_pr (by omega), show m + 1 - 1 = m by omega]
    constructor
    · intro z
      unfold sw_wi at z
      by_cases y : 0 ≤ x ∧ x ≤ nI m
      · have h1 := i_le.mp y.1
        have h2 := i_le.mp y.2
        have e1 : (0 : Int32).toInt = 0 := rfl
        rw [nI_toInt (by omega)] at h2
        refine ⟨x.toInt.toNat, by omega, ?_⟩
        apply Int32.toInt_inj.mp
        rw [nI_toInt (by omega)]
        omega
      · rw [if_neg y] at z; exact absurd rfl z
    · rintro ⟨i, i1, rfl⟩
      exact sw_wi_1 (nI_pos' (by omega)) (nI_le (by omega) (by omega))
def nv_ (u : sw_Sg) (what : Int32) : Int32 := if what = 0 then u 5 5 else if what = 1 then u 5 6 else if what = 2 then u 5 7 else if what - 10 < 2 * u 5 7 then sw_at (u 57) 12 (what - 10) else -6
section CMETH2
variable {X : sw_X} {σ τ u : sw_Sg} {x y v w st what : Int32} {n a b c sea g br wn k s M p : Nat} {L : List Nat}
theorem cI_L (hI : cI_ n a b c sea g br wn k σ) (h3 : 3 ≤ k) : σ 4 2 = nI (ct_L n g wn 40 48 43 σ).length ∧ (ct_L n g wn 40 48 43 σ).length ≤ 6 ∧ ∀ i, i < (ct_L n g wn 40 48 43 σ).length → σ 53 i = nI (ct_p (ct_L n g wn 40 48 43 σ) i) ∧ ct_p (ct_L n g wn 40 48 43 σ) i < n * n := by
  obtain ⟨c1, c2, c3⟩ := hI.2.2.2.2.2.1 h3
  refine ⟨c2, Nat.le_trans ct_len hI.1.2.2.2.2.2, fun i hi => ?_⟩
  have e := ct_p_e hi
  exact ⟨c3 i _ e, (ct_ok.1 i _ e).1⟩
theorem C_X1_endOfRoad : sw_F X 1 mX1_endOfRoad [.ref (sw_ad X 5), .int x] σ (if x < 2 * σ 5 7 then sw_at (σ 57) 12 x else -6) σ := by
  refine sw_ME.ofF (by decide +kernel) rfl (Nat.le_of_ble_eq_true rfl) rfl ?_
  by_cases h : x < 2 * σ 5 7
  · refine SW.iload_n (q := 1) (i := 1) dX1_endOfRoad_0 rfl rfl rfl ?_
    refine SW.iconst (q := 2) (v := 2) dX1_endOfRoad_1 (by decide) rfl ?_
    refine SW.aload_n (q := 3) (i := 0) dX1_endOfRoad_2 rfl rfl rfl ?_
    refine SW.getI (q := 6) (i := 5) fX1_39 rfl rfl dX1_endOfRoad_3 rfl ?_
    refine SW.imul (q := 7) dX1_endOfRoad_6 rfl ?_
    refine SW.icmp_ge (q := 10) (tgt := 21) dX1_endOfRoad_7 (by decide) rfl (fun c7 => absurd c7 ((Int32.not_le.mpr h))) (fun _ => ?_)
    refine SW.aload_n (q := 11) (i := 0) dX1_endOfRoad_10 rfl rfl rfl ?_
    refine SW.getR (q := 14) (i := 5) (j := 31) fX1_26 rfl rfl dX1_endOfRoad_11 rfl ?_
    refine SW.iload_n (q := 15) (i := 1) dX1_endOfRoad_14 rfl rfl rfl ?_
    refine SW.cF (q := 18) (C_X3_at (i := 31) (j := 57) (n := 12) rfl rfl) vX1_50 (by decide) rfl rfl rfl rfl (Nat.le_of_ble_eq_true rfl) dX1_endOfRoad_15 rfl ?_
    refine SW.goto (q := 23) dX1_endOfRoad_18 (by decide) ?_
    refine SW.iretR rfl rfl dX1_endOfRoad_23 ?_
    exact ⟨by rw [if_pos h], rfl⟩
  · refine SW.iload_n (q := 1) (i := 1) dX1_endOfRoad_0 rfl rfl rfl ?_
    refine SW.iconst (q := 2) (v := 2) dX1_endOfRoad_1 (by decide) rfl ?_
    refine SW.aload_n (q := 3) (i := 0) dX1_endOfRoad_2 rfl rfl rfl ?_
    refine SW.getI (q := 6) (i := 5) fX1_39 rfl rfl dX1_endOfRoad_3 rfl ?_
    refine SW.imul (q := 7) dX1_endOfRoad_6 rfl ?_
    refine SW.icmp_ge (q := 10) (tgt := 21) dX1_endOfRoad_7 (by decide) rfl (fun _ => ?_) (fun c7 => absurd ((Int32.not_lt.mp h)) c7)
    refine SW.bipush (q := 23) (v := (-6)) dX1_endOfRoad_21 (by decide) rfl ?_
    refine SW.iretR rfl rfl dX1_endOfRoad_23 ?_
    exact ⟨by rw [if_neg h], rfl⟩
theorem C_X7_town (hI : cI_ n a b c sea g br wn k σ) :
    sw_Mi X 6 mX7_town [.ref (sw_ad X 0), .int x] σ (fun v u => fc_ σ u ∧ ce_ σ u ∧ ∃ M, cI_ n a b c sea g br wn M u ∧ 3 ≤ M ∧ ((¬ ∃ i, i < (ct_L n g wn 40 48 43 u).length ∧ x = nI i) → v = -1) ∧ ∀ i, i < (ct_L n g wn 40 48 43 u).length → x = nI i → v = nI (ct_p (ct_L n g wn 40 48 43 u) i)) := by
  obtain ⟨M, hM⟩ : ∃ M, (M = k ∧ 3 ≤ k) ∨ (M = 3 ∧ k ≤ 3) := by
    rcases Nat.lt_or_ge k 3 with z | z
    · exact ⟨3, Or.inr ⟨rfl, by omega⟩⟩
    · exact ⟨k, Or.inl ⟨rfl, z⟩⟩
  refine sw_ME.ofF (by decide +kernel) rfl (Nat.le_of_ble_eq_true rfl) rfl ?_
  refine SW.aload_n (q := 1) (i := 0) dX7_town_0 rfl rfl rfl ?_
  refine SW.iconst (q := 2) (v := 3) dX7_town_1 (by decide) rfl ?_
  refine SW.cV (q := 5) (C_X7_makeUpTo (s := 3) hI rfl (by decide) hM) vX7_110 (by decide) rfl rfl rfl rfl (Nat.le_of_ble_eq_true rfl) dX7_town_2 rfl (fun u2 r2 => ?_)
  obtain ⟨g1, g2⟩ := r2
  obtain ⟨c2, c6, c3⟩ := cI_L g2 (by omega)
  refine SW.aload_n (q := 6) (i := 0) dX7_town_5 rfl rfl rfl ?_
  refine SW.iload_n (q := 7) (i := 1) dX7_town_6 rfl rfl rfl ?_
  refine SW.cF (q := 10) (C_X7_isTown) vX7_174 (by decide) rfl rfl rfl rfl (Nat.le_of_ble_eq_true rfl) dX7_town_7 rfl ?_
  refine SW.if_eq (q := 13) (tgt := 27) dX7_town_10 (by decide) rfl (fun c10 => ?_) (fun c10 => ?_)
  · refine SW.iconst (q := 28) (v := (-1)) dX7_town_27 (by decide) rfl ?_
    refine SW.iretR rfl rfl dX7_town_28 ?_
    first
    | exact ⟨fc_fr g1 (by decide), ce_fr g1 (by decide), M, g2, by omega, fun z => absurd ⟨i, i1, rfl⟩ z, fun i' h' e => by rw [nI_eq (by omega) (by omega)] at e; subst e; exact (c3 i i1).1⟩
    | exact ⟨fc_fr g1 (by decide), ce_fr g1 (by decide), M, g2, by omega, fun _ => rfl, fun i' h' e => absurd (by rw [← c2]; exact c10) ((tn_wi c6).mpr ⟨i', h', e⟩)⟩
  · obtain ⟨i, i1, rfl⟩ := (tn_wi c6).mp (by rw [← c2]; exact c10)
    refine SW.aload_n (q := 14) (i := 0) dX7_town_13 rfl rfl rfl ?_
    refine SW.getR (q := 17) (i := 0) (j := 4) fX7_33 rfl rfl dX7_town_14 rfl ?_
    refine SW.getR (q := 20) (i := 4) (j := 27) fX7_177 rfl rfl dX7_town_17 rfl ?_
    refine SW.iload_n (q := 21) (i := 1) dX7_town_20 rfl rfl rfl ?_
    refine SW.cF (q := 24) (C_X3_atn (i := 27) (j := 53) (n := 6) rfl rfl (k := i) rfl (by omega)) vX7_119 (by decide) rfl rfl rfl rfl (Nat.le_of_ble_eq_true rfl) dX7_town_21 rfl ?_
    refine SW.goto (q := 28) dX7_town_24 (by decide) ?_
    refine SW.iretR rfl rfl dX7_town_28 ?_
    first
    | exact ⟨fc_fr g1 (by decide), ce_fr g1 (by decide), M, g2, by omega, fun z => absurd ⟨i, i1, rfl⟩ z, fun i' h' e => by rw [nI_eq (by omega) (by omega)] at e; subst e; exact (c3 i i1).1⟩
    | exact ⟨fc_fr g1 (by decide), ce_fr g1 (by decide), M, g2, by omega, fun _ => rfl, fun i' h' e => absurd (by rw [← c2]; exact c10) ((tn_wi c6).mpr ⟨i', h', e⟩)⟩
theorem C_X7_cost (hI : cI_ n a b c sea g br wn k σ) :
    sw_Mi X 6 mX7_cost [.ref (sw_ad X 0), .int x, .int y] σ (fun v u => fc_ σ u ∧ ce_ σ u ∧ cI_ n a b c sea g br wn 4 u ∧ ((¬ ((∃ i, i < (ct_L n g wn 40 48 43 u).length ∧ x = nI i) ∧ ∃ j, j < (ct_L n g wn 40 48 43 u).length ∧ y = nI j)) → v = -1) ∧ ∀ i j, i < (ct_L n g wn 40 48 43 u).length → j < (ct_L n g wn 40 48 43 u).length → x = nI i → y = nI j → v = u 54 (576 * j + ct_p (ct_L n g wn 40 48 43 u) i)) := by
  have n24 : n ≤ 24 := hI.1.1.2.1
  have h576 := gr_576 n24
  refine sw_ME.ofF (by decide +kernel) rfl (Nat.le_of_ble_eq_true rfl) rfl ?_
  refine SW.aload_n (q := 1) (i := 0) dX7_cost_0 rfl rfl rfl ?_
  refine SW.iconst (q := 2) (v := 4) dX7_cost_1 (by decide) rfl ?_
  refine SW.cV (q := 5) (C_X7_makeUpTo (s := 4) (M := 4) hI rfl (by decide) (Or.inr ⟨rfl, hI.2.2.1⟩)) vX7_110 (by decide) rfl rfl rfl rfl (Nat.le_of_ble_eq_true rfl) dX7_cost_2 rfl (fun u2 r2 => ?_)
  obtain ⟨g1, g2⟩ := r2
  obtain ⟨c2, c6, c3⟩ := cI_L g2 (by omega)
  refine SW.aload_n (q := 6) (i := 0) dX7_cost_5 rfl rfl rfl ?_
  refine SW.iload_n (q := 7) (i := 1) dX7_cost_6 rfl rfl rfl ?_
  refine SW.cF (q := 10) (C_X7_isTown) vX7_174 (by decide) rfl rfl rfl rfl (Nat.le_of_ble_eq_true rfl) dX7_cost_7 rfl ?_
  refine SW.if_eq (q := 13) (tgt := 21) dX7_cost_10 (by decide) rfl (fun c10 => ?_) (fun c10 => ?_)
  · refine SW.iconst (q := 22) (v := (-1)) dX7_cost_21 (by decide) rfl ?_
    refine SW.iretR rfl rfl dX7_cost_22 ?_
    first
    | exact ⟨fc_fr g1 (by decide), ce_fr g1 (by decide), g2, fun _ => rfl, fun i' j' h' h'' e e' => absurd (by rw [← c2]; exact c18) ((tn_wi c6).mpr ⟨j', h'', e'⟩)⟩
    | exact ⟨fc_fr g1 (by decide), ce_fr g1 (by decide), g2, fun _ => rfl, fun i' j' h' h'' e e' => absurd (by rw [← c2]; exact c10) ((tn_wi c6).mpr ⟨i', h', e⟩)⟩
  · refine SW.aload_n (q := 14) (i := 0) dX7_cost_13 rfl rfl rfl ?_
    refine SW.iload_n (q := 15) (i := 2) dX7_cost_14 rfl rfl rfl ?_
    refine SW.cF (q := 18) (C_X7_isTown) vX7_174 (by decide) rfl rfl rfl rfl (Nat.le_of_ble_eq_true rfl) dX7_cost_15 rfl ?_
    refine SW.if_ne (q := 21) (tgt := 23) dX7_cost_18 (by decide) rfl (fun c18 => ?_) (fun c18 => ?_)
    · obtain ⟨i, i1, rfl⟩ := (tn_wi c6).mp (by rw [← c2]; exact c10)
      obtain ⟨j, j1, rfl⟩ := (tn_wi c6).mp (by rw [← c2]; exact c18)
      obtain ⟨p1, p2⟩ := c3 i i1
      refine SW.aload_n (q := 24) (i := 0) dX7_cost_23 rfl rfl rfl ?_
      refine SW.getR (q := 27) (i := 0) (j := 5) fX7_40 rfl rfl dX7_cost_24 rfl ?_
      refine SW.aload_n (q := 28) (i := 0) dX7_cost_27 rfl rfl rfl ?_
      refine SW.getR (q := 31) (i := 0) (j := 4) fX7_33 rfl rfl dX7_cost_28 rfl ?_
      refine SW.getR (q := 34) (i := 4) (j := 27) fX7_177 rfl rfl dX7_cost_31 rfl ?_
      refine SW.iload_n (q := 35) (i := 1) dX7_cost_34 rfl rfl rfl ?_
      refine SW.cF (q := 38) (C_X3_atn (i := 27) (j := 53) (n := 6) rfl rfl (k := i) rfl (by omega)) vX7_119 (by decide) rfl rfl rfl rfl (Nat.le_of_ble_eq_true rfl) dX7_cost_35 rfl ?_
      refine SW.iload_n (q := 39) (i := 2) dX7_cost_38 rfl rfl rfl ?_
      refine SW.cF (q := 42) (C_X1_costOf (p := ct_p (ct_L n g wn 40 48 43 u2) i) (t := j) p1 rfl (by omega) (by omega)) vX7_180 (by decide) rfl rfl rfl rfl (Nat.le_of_ble_eq_true rfl) dX7_cost_39 rfl ?_
      refine SW.iretR rfl rfl dX7_cost_42 ?_
      exact ⟨fc_fr g1 (by decide), ce_fr g1 (by decide), g2, fun z => absurd ⟨⟨i, i1, rfl⟩, j, j1, rfl⟩ z, fun i' j' h' h'' e e' => by rw [nI_eq (by omega) (by omega)] at e e'; subst e; subst e'; rfl⟩
    · refine SW.iconst (q := 22) (v := (-1)) dX7_cost_21 (by decide) rfl ?_
      refine SW.iretR rfl rfl dX7_cost_22 ?_
      first
      | exact ⟨fc_fr g1 (by decide), ce_fr g1 (by decide), g2, fun _ => rfl, fun i' j' h' h'' e e' => absurd (by rw [← c2]; exact c18) ((tn_wi c6).mpr ⟨j', h'', e'⟩)⟩
      | exact ⟨fc_fr g1 (by decide), ce_fr g1 (by decide), g2, fun _ => rfl, fun i' j' h' h'' e e' => absurd (by rw [← c2]; exact c10) ((tn_wi c6).mpr ⟨i', h', e⟩)⟩
theorem C_X7_way (hI : cI_ n a b c sea g br wn k σ) :
    sw_Mi X 6 mX7_way [.ref (sw_ad X 0), .int x, .int y, .int w] σ (fun v u => fc_ σ u ∧ ce_ σ u ∧ cI_ n a b c sea g br wn 4 u ∧ ((¬ ((∃ i, i < (ct_L n g wn 40 48 43 u).length ∧ x = nI i) ∧ ∃ j, j < (ct_L n g wn 40 48 43 u).length ∧ y = nI j)) → v = -1) ∧ ∀ i j, i < (ct_L n g wn 40 48 43 u).length → j < (ct_L n g wn 40 48 43 u).length → x = nI i → y = nI j →
      ∃ h d, (∀ p, p < n * n → u 40 p = nI (h p) ∧ h p ≤ 400) ∧ nt_ok n h (u 48) br (ct_p (ct_L n g wn 40 48 43 u) j) d ∧ v = (if w < 0 ∨ d (ct_p (ct_L n g wn 40 48 43 u) i) = none then -6 else gr_v (nt_wy (fun a => nt_nx n h (u 48) br d a 4) w.toInt.toNat (some (ct_p (ct_L n g wn 40 48 43 u) i))))) := by
  have n24 : n ≤ 24 := hI.1.1.2.1
  have h576 := gr_576 n24
  refine sw_ME.ofF (by decide +kernel) rfl (Nat.le_of_ble_eq_true rfl) rfl ?_
  refine SW.aload_n (q := 1) (i := 0) dX7_way_0 rfl rfl rfl ?_
  refine SW.iconst (q := 2) (v := 4) dX7_way_1 (by decide) rfl ?_
  refine SW.cV (q := 5) (C_X7_makeUpTo (s := 4) (M := 4) hI rfl (by decide) (Or.inr ⟨rfl, hI.2.2.1⟩)) vX7_110 (by decide) rfl rfl rfl rfl (Nat.le_of_ble_eq_true rfl) dX7_way_2 rfl (fun u2 r2 => ?_)
  obtain ⟨g1, g2⟩ := r2
  obtain ⟨c2, c6, c3⟩ := cI_L g2 (by omega)
  obtain ⟨hh, D, T, h4, ⟨nN, nb4, nl, nT, nr⟩⟩ := g2.2.2.2.2.2.2 (by omega)
  have hK2 := g2.1
  have y1 := g2.2.2.2.1 (by omega)
  have hG2 : nk_G n hh (u2 48) br u2 := ⟨⟨⟨hK2.1.1, hK2.1.2.1, hK2.1.2.2.1, hK2.1.2.2.2, fun p hp => ⟨(y1 p hp).1, (y1 p hp).2.1⟩⟩, h4⟩, rfl, nb4, hK2.2.2.2.1.2.2.2.2.2.2⟩
  refine SW.aload_n (q := 6) (i := 0) dX7_way_5 rfl rfl rfl ?_
  refine SW.iload_n (q := 7) (i := 1) dX7_way_6 rfl rfl rfl ?_
  refine SW.cF (q := 10) (C_X7_isTown) vX7_174 (by decide) rfl rfl rfl rfl (Nat.le_of_ble_eq_true rfl) dX7_way_7 rfl ?_
  refine SW.if_eq (q := 13) (tgt := 21) dX7_way_10 (by decide) rfl (fun c10 => ?_) (fun c10 => ?_)
  · refine SW.iconst (q := 22) (v := (-1)) dX7_way_21 (by decide) rfl ?_
    refine SW.iretR rfl rfl dX7_way_22 ?_
    first
    | exact ⟨fc_fr g1 (by decide), ce_fr g1 (by decide), g2, fun _ => rfl, fun i' j' h' h'' e e' => absurd (by rw [← c2]; exact c18) ((tn_wi c6).mpr ⟨j', h'', e'⟩)⟩
    | exact ⟨fc_fr g1 (by decide), ce_fr g1 (by decide), g2, fun _ => rfl, fun i' j' h' h'' e e' => absurd (by rw [← c2]; exact c10) ((tn_wi c6).mpr ⟨i', h', e⟩)⟩
  · refine SW.aload_n (q := 14) (i := 0) dX7_way_13 rfl rfl rfl ?_
    refine SW.iload_n (q := 15) (i := 2) dX7_way_14 rfl rfl rfl ?_
    refine SW.cF (q := 18) (C_X7_isTown) vX7_174 (by decide) rfl rfl rfl rfl (Nat.le_of_ble_eq_true rfl) dX7_way_15 rfl ?_
    refine SW.if_ne (q := 21) (tgt := 23) dX7_way_18 (by decide) rfl (fun c18 => ?_) (fun c18 => ?_)
    · obtain ⟨i, i1, rfl⟩ := (tn_wi c6).mp (by rw [← c2]; exact c10)
      obtain ⟨j, j1, rfl⟩ := (tn_wi c6).mp (by rw [← c2]; exact c18)
      obtain ⟨p1, p2⟩ := c3 i i1
      refine SW.aload_n (q := 24) (i := 0) dX7_way_23 rfl rfl rfl ?_
      refine SW.getR (q := 27) (i := 0) (j := 5) fX7_40 rfl rfl dX7_way_24 rfl ?_
      refine SW.aload_n (q := 28) (i := 0) dX7_way_27 rfl rfl rfl ?_
      refine SW.getR (q := 31) (i := 0) (j := 1) fX7_12 rfl rfl dX7_way_28 rfl ?_
      refine SW.aload_n (q := 32) (i := 0) dX7_way_31 rfl rfl rfl ?_
      refine SW.getR (q := 35) (i := 0) (j := 2) fX7_19 rfl rfl dX7_way_32 rfl ?_
      refine SW.aload_n (q := 36) (i := 0) dX7_way_35 rfl rfl rfl ?_
      refine SW.getR (q := 39) (i := 0) (j := 4) fX7_33 rfl rfl dX7_way_36 rfl ?_
      refine SW.getR (q := 42) (i := 4) (j := 27) fX7_177 rfl rfl dX7_way_39 rfl ?_
      refine SW.iload_n (q := 43) (i := 1) dX7_way_42 rfl rfl rfl ?_
      refine SW.cF (q := 46) (C_X3_atn (i := 27) (j := 53) (n := 6) rfl rfl (k := i) rfl (by omega)) vX7_119 (by decide) rfl rfl rfl rfl (Nat.le_of_ble_eq_true rfl) dX7_way_43 rfl ?_
      refine SW.iload_n (q := 47) (i := 2) dX7_way_46 rfl rfl rfl ?_
      refine SW.iload_n (q := 48) (i := 3) dX7_way_47 rfl rfl rfl ?_
      refine SW.cF (q := 51) (C_X1_placeOfWay (p := ct_p (ct_L n g wn 40 48 43 u2) i) (t := j) (d := D j) hG2 (by omega) (nt_bd n24 (nN.1 j j1)) (nl j j1) p1 p2 rfl) vX7_183 (by decide) rfl rfl rfl rfl (Nat.le_of_ble_eq_true rfl) dX7_way_48 rfl ?_
      refine SW.iretR rfl rfl dX7_way_51 ?_
      refine ⟨fc_fr g1 (by decide), ce_fr g1 (by decide), g2, fun z => absurd ⟨⟨i, i1, rfl⟩, j, j1, rfl⟩ z, fun i' j' h' h'' e e' => ?_⟩
      rw [nI_eq (by omega) (by omega)] at e e'
      subst e
      subst e'
      exact ⟨hh, D j, h4, nN.1 j j1, rfl⟩
    · refine SW.iconst (q := 22) (v := (-1)) dX7_way_21 (by decide) rfl ?_
      refine SW.iretR rfl rfl dX7_way_22 ?_
      first
      | exact ⟨fc_fr g1 (by decide), ce_fr g1 (by decide), g2, fun _ => rfl, fun i' j' h' h'' e e' => absurd (by rw [← c2]; exact c18) ((tn_wi c6).mpr ⟨j', h'', e'⟩)⟩
      | exact ⟨fc_fr g1 (by decide), ce_fr g1 (by decide), g2, fun _ => rfl, fun i' j' h' h'' e e' => absurd (by rw [← c2]; exact c10) ((tn_wi c6).mpr ⟨i', h', e⟩)⟩
theorem C_X7_net (hI : cI_ n a b c sea g br wn k σ) :
    sw_Mi X 6 mX7_net [.ref (sw_ad X 0), .int what] σ (fun v u => fc_ σ u ∧ ce_ σ u ∧ ∃ M, cI_ n a b c sea g br wn M u ∧ ((what < 0 ∨ 2 < what ∧ what < 10) → v = -2) ∧ (¬ (what < 0 ∨ 2 < what ∧ what < 10) → v = nv_ u what ∧ 4 ≤ M)) := by
  refine sw_ME.ofF (by decide +kernel) rfl (Nat.le_of_ble_eq_true rfl) rfl ?_
  by_cases hb : what < 0 ∨ 2 < what ∧ what < 10
  · rcases hb with h0 | ⟨h1, h2⟩
    · refine SW.iload_n (q := 1) (i := 1) dX7_net_0 rfl rfl rfl ?_
      refine SW.if_lt (q := 4) (tgt := 15) dX7_net_1 (by decide) rfl (fun _ => ?_) (fun c1 => absurd (h0) c1)
      refine SW.bipush (q := 17) (v := (-2)) dX7_net_15 (by decide) rfl ?_
      refine SW.iretR rfl rfl dX7_net_17 ?_
      exact ⟨fc_rf, ce_rf, k, hI, fun _ => rfl, fun z => absurd (Or.inl h0) z⟩
    · by_cases h0 : what < 0
      · refine SW.iload_n (q := 1) (i := 1) dX7_net_0 rfl rfl rfl ?_
        refine SW.if_lt (q := 4) (tgt := 15) dX7_net_1 (by decide) rfl (fun _ => ?_) (fun c1 => absurd (h0) c1)
        refine SW.bipush (q := 17) (v := (-2)) dX7_net_15 (by decide) rfl ?_
        refine SW.iretR rfl rfl dX7_net_17 ?_
        exact ⟨fc_rf, ce_rf, k, hI, fun _ => rfl, fun z => absurd (Or.inl h0) z⟩
      · refine SW.iload_n (q := 1) (i := 1) dX7_net_0 rfl rfl rfl ?_
        refine SW.if_lt (q := 4) (tgt := 15) dX7_net_1 (by decide) rfl (fun c1 => absurd c1 (h0)) (fun _ => ?_)
        refine SW.iload_n (q := 5) (i := 1) dX7_net_4 rfl rfl rfl ?_
        refine SW.iconst (q := 6) (v := 2) dX7_net_5 (by decide) rfl ?_
        refine SW.icmp_le (q := 9) (tgt := 18) dX7_net_6 (by decide) rfl (fun c6 => absurd c6 ((Int32.not_le.mpr h1))) (fun _ => ?_)
        refine SW.iload_n (q := 10) (i := 1) dX7_net_9 rfl rfl rfl ?_
        refine SW.bipush (q := 12) (v := 10) dX7_net_10 (by decide) rfl ?_
        refine SW.icmp_ge (q := 15) (tgt := 18) dX7_net_12 (by decide) rfl (fun c12 => absurd c12 ((Int32.not_le.mpr h2))) (fun _ => ?_)
        refine SW.bipush (q := 17) (v := (-2)) dX7_net_15 (by decide) rfl ?_
        refine SW.iretR rfl rfl dX7_net_17 ?_
        exact ⟨fc_rf, ce_rf, k, hI, fun _ => rfl, fun z => absurd (Or.inr ⟨h1, h2⟩) z⟩
  · have h0 : ¬ what < 0 := fun z => hb (Or.inl z)
    have J : SW X 6 mX7_net sw_E0 (sw_Ri (fun v u => fc_ σ u ∧ ce_ σ u ∧ ∃ M, cI_ n a b c sea g br wn M u ∧ ((what < 0 ∨ 2 < what ∧ what < 10) → v = -2) ∧ (¬ (what < 0 ∨ 2 < what ∧ what < 10) → v = nv_ u what ∧ 4 ≤ M))) 18 [.ref (sw_ad X 0), .int what] [] σ := by
      by_cases w0 : what = 0
      · refine SW.aload_n (q := 19) (i := 0) dX7_net_18 rfl rfl rfl ?_
        refine SW.iconst (q := 20) (v := 4) dX7_net_19 (by decide) rfl ?_
        refine SW.cV (q := 23) (C_X7_makeUpTo (s := 4) (M := 4) hI rfl (by decide) (Or.inr ⟨rfl, hI.2.2.1⟩)) vX7_110 (by decide) rfl rfl rfl rfl (Nat.le_of_ble_eq_true rfl) dX7_net_20 rfl (fun u20 r20 => ?_)
        obtain ⟨g1, g2⟩ := r20
        refine SW.iload_n (q := 24) (i := 1) dX7_net_23 rfl rfl rfl ?_
        refine SW.tableK (q := 52) (k := 0) (off := 28) dX7_net_24 w0 (by decide) (by decide) rfl (by decide) ?_
        refine SW.aload_n (q := 53) (i := 0) dX7_net_52 rfl rfl rfl ?_
        refine SW.getR (q := 56) (i := 0) (j := 5) fX7_40 rfl rfl dX7_net_53 rfl ?_
        refine SW.getI (q := 59) (i := 5) fX7_187 rfl rfl dX7_net_56 rfl ?_
        refine SW.iretR rfl rfl dX7_net_59 ?_
        exact ⟨fc_fr g1 (by decide), ce_fr g1 (by decide), 4, g2, fun z => absurd z hb, fun _ => ⟨by rw [nv_, if_pos w0], by omega⟩⟩
      · by_cases w1 : what = 1
        · refine SW.aload_n (q := 19) (i := 0) dX7_net_18 rfl rfl rfl ?_
          refine SW.iconst (q := 20) (v := 4) dX7_net_19 (by decide) rfl ?_
          refine SW.cV (q := 23) (C_X7_makeUpTo (s := 4) (M := 4) hI rfl (by decide) (Or.inr ⟨rfl, hI.2.2.1⟩)) vX7_110 (by decide) rfl rfl rfl rfl (Nat.le_of_ble_eq_true rfl) dX7_net_20 rfl (fun u20 r20 => ?_)
          obtain ⟨g1, g2⟩ := r20
          refine SW.iload_n (q := 24) (i := 1) dX7_net_23 rfl rfl rfl ?_
          refine SW.tableK (q := 60) (k := 1) (off := 36) dX7_net_24 w1 (by decide) (by decide) rfl (by decide) ?_
          refine SW.aload_n (q := 61) (i := 0) dX7_net_60 rfl rfl rfl ?_
          refine SW.getR (q := 64) (i := 0) (j := 5) fX7_40 rfl rfl dX7_net_61 rfl ?_
          refine SW.getI (q := 67) (i := 5) fX7_190 rfl rfl dX7_net_64 rfl ?_
          refine SW.iretR rfl rfl dX7_net_67 ?_
          exact ⟨fc_fr g1 (by decide), ce_fr g1 (by decide), 4, g2, fun z => absurd z hb, fun _ => ⟨by rw [nv_, if_neg w0, if_pos w1], by omega⟩⟩
        · by_cases w2 : what = 2
          · refine SW.aload_n (q := 19) (i := 0) dX7_net_18 rfl rfl rfl ?_
            refine SW.iconst (q := 20) (v := 4) dX7_net_19 (by decide) rfl ?_
            refine SW.cV (q := 23) (C_X7_makeUpTo (s := 4) (M := 4) hI rfl (by decide) (Or.inr ⟨rfl, hI.2.2.1⟩)) vX7_110 (by decide) rfl rfl rfl rfl (Nat.le_of_ble_eq_true rfl) dX7_net_20 rfl (fun u20 r20 => ?_)
            obtain ⟨g1, g2⟩ := r20
            refine SW.iload_n (q := 24) (i := 1) dX7_net_23 rfl rfl rfl ?_
            refine SW.tableK (q := 68) (k := 2) (off := 44) dX7_net_24 w2 (by decide) (by decide) rfl (by decide) ?_
            refine SW.aload_n (q := 69) (i := 0) dX7_net_68 rfl rfl rfl ?_
            refine SW.getR (q := 72) (i := 0) (j := 5) fX7_40 rfl rfl dX7_net_69 rfl ?_
            refine SW.getI (q := 75) (i := 5) fX7_193 rfl rfl dX7_net_72 rfl ?_
            refine SW.iretR rfl rfl dX7_net_75 ?_
            exact ⟨fc_fr g1 (by decide), ce_fr g1 (by decide), 4, g2, fun z => absurd z hb, fun _ => ⟨by rw [nv_, if_neg w0, if_neg w1, if_pos w2], by omega⟩⟩
          · refine SW.aload_n (q := 19) (i := 0) dX7_net_18 rfl rfl rfl ?_
            refine SW.iconst (q := 20) (v := 4) dX7_net_19 (by decide) rfl ?_
            refine SW.cV (q := 23) (C_X7_makeUpTo (s := 4) (M := 4) hI rfl (by decide) (Or.inr ⟨rfl, hI.2.2.1⟩)) vX7_110 (by decide) rfl rfl rfl rfl (Nat.le_of_ble_eq_true rfl) dX7_net_20 rfl (fun u20 r20 => ?_)
            obtain ⟨g1, g2⟩ := r20
            refine SW.iload_n (q := 24) (i := 1) dX7_net_23 rfl rfl rfl ?_
            refine SW.tableOut (q := 76) dX7_net_24 ((sw_out 0 2 (by decide) (by decide) (fun k h1 h2 => by rcases (show k = 0 ∨ k = 1 ∨ k = 2 by omega) with rfl | rfl | rfl <;> assumption))) (by decide) ?_
            refine SW.aload_n (q := 77) (i := 0) dX7_net_76 rfl rfl rfl ?_
            refine SW.getR (q := 80) (i := 0) (j := 5) fX7_40 rfl rfl dX7_net_77 rfl ?_
            refine SW.iload_n (q := 81) (i := 1) dX7_net_80 rfl rfl rfl ?_
            refine SW.bipush (q := 83) (v := 10) dX7_net_81 (by decide) rfl ?_
            refine SW.isub (q := 84) dX7_net_83 rfl ?_
            refine SW.cF (q := 87) (C_X1_endOfRoad) vX7_196 (by decide) rfl rfl rfl rfl (Nat.le_of_ble_eq_true rfl) dX7_net_84 rfl ?_
            refine SW.iretR rfl rfl dX7_net_87 ?_
            exact ⟨fc_fr g1 (by decide), ce_fr g1 (by decide), 4, g2, fun z => absurd z hb, fun _ => ⟨by rw [nv_, if_neg w0, if_neg w1, if_neg w2], by omega⟩⟩
    by_cases h2 : what ≤ 2
    · refine SW.iload_n (q := 1) (i := 1) dX7_net_0 rfl rfl rfl ?_
      refine SW.if_lt (q := 4) (tgt := 15) dX7_net_1 (by decide) rfl (fun c1 => absurd c1 (h0)) (fun _ => ?_)
      refine SW.iload_n (q := 5) (i := 1) dX7_net_4 rfl rfl rfl ?_
      refine SW.iconst (q := 6) (v := 2) dX7_net_5 (by decide) rfl ?_
      refine SW.icmp_le (q := 9) (tgt := 18) dX7_net_6 (by decide) rfl (fun _ => ?_) (fun c6 => absurd (h2) c6)
      exact J
    · refine SW.iload_n (q := 1) (i := 1) dX7_net_0 rfl rfl rfl ?_
      refine SW.if_lt (q := 4) (tgt := 15) dX7_net_1 (by decide) rfl (fun c1 => absurd c1 (h0)) (fun _ => ?_)
      refine SW.iload_n (q := 5) (i := 1) dX7_net_4 rfl rfl rfl ?_
      refine SW.iconst (q := 6) (v := 2) dX7_net_5 (by decide) rfl ?_
      refine SW.icmp_le (q := 9) (tgt := 18) dX7_net_6 (by decide) rfl (fun c6 => absurd c6 (h2)) (fun _ => ?_)
      refine SW.iload_n (q := 10) (i := 1) dX7_net_9 rfl rfl rfl ?_
      refine SW.bipush (q := 12) (v := 10) dX7_net_10 (by decide) rfl ?_
      refine SW.icmp_ge (q := 15) (tgt := 18) dX7_net_12 (by decide) rfl (fun _ => ?_) (fun c12 => absurd ((Int32.not_lt.mp (fun z => hb (Or.inr ⟨Int32.not_le.mp h2, z⟩)))) c12)
      exact J
theorem C_X7_many (hI : cI_ n a b c sea g br wn k σ) :
    sw_Mi X 6 mX7_many [.ref (sw_ad X 0), .int what] σ (fun v u => fc_ σ u ∧ ce_ σ u ∧ ∃ M, cI_ n a b c sea g br wn M u ∧ (¬ bc_ok what → v = -2) ∧ (bc_ok what → 4 ≤ M ∧ v = nI (lk_n (fun q => ¬ sg_ (u 48 q) (q ∈ ct_L n g wn 40 48 43 u) (u 55 q) &&& what = 0) (n * n)))) := by
  have n24 : n ≤ 24 := hI.1.1.2.1
  have h576 := gr_576 n24
  refine sw_ME.ofF (by decide +kernel) rfl (Nat.le_of_ble_eq_true rfl) rfl ?_
  by_cases hw : 1 ≤ what ∧ what ≤ 32
  · obtain ⟨j, hj, j32⟩ : ∃ j, what = nI j ∧ j ≤ 32 := by
      have h1 := i_le.mp hw.1
      have h2 := i_le.mp hw.2
      have e1 : (1 : Int32).toInt = 1 := rfl
      have e2 : (32 : Int32).toInt = 32 := rfl
      refine ⟨what.toInt.toNat, ?_, by omega⟩
      apply Int32.toInt_inj.mp
      rw [nI_toInt (by omega)]
      omega
    have loop : ∀ (τ : sw_Sg), fc_ σ τ → ce_ σ τ → cI_ n a b c sea g br wn 4 τ → bc_ok what → ∀ (k p : Nat), p + k = n * n → SW X 6 mX7_many sw_E0 (sw_Ri (fun v u => fc_ σ u ∧ ce_ σ u ∧ ∃ M, cI_ n a b c sea g br wn M u ∧ (¬ bc_ok what → v = -2) ∧ (bc_ok what → 4 ≤ M ∧ v = nI (lk_n (fun q => ¬ sg_ (u 48 q) (q ∈ ct_L n g wn 40 48 43 u) (u 55 q) &&& what = 0) (n * n))))) 30 [.ref (sw_ad X 0), .int what, .int (nI (lk_n (fun q => ¬ sg_ (τ 48 q) (q ∈ ct_L n g wn 40 48 43 τ) (τ 55 q) &&& what = 0) p)), .int (nI p)] [] τ := by
      intro τ t1 t2 t3 t4 k
      have epl : τ 1 2 = nI (n * n) := t3.1.1.2.2.2
      obtain ⟨c1, c2, c3⟩ := t3.2.2.2.2.2.1 (by omega)
      induction k with
      | zero =>
        intro p hp
        obtain rfl : p = n * n := by omega
        refine SW.iload_n (q := 31) (i := 3) dX7_many_30 rfl rfl rfl ?_
        refine SW.aload_n (q := 32) (i := 0) dX7_many_31 rfl rfl rfl ?_
        refine SW.getR (q := 35) (i := 0) (j := 1) fX7_12 rfl rfl dX7_many_32 rfl ?_
        refine SW.getI (q := 38) (i := 1) fX7_93 rfl rfl dX7_many_35 rfl ?_
        refine SW.icmp_ge (q := 41) (tgt := 60) dX7_many_38 (by decide) rfl (fun _ => ?_) (fun c38 => absurd ((by rw [epl]; exact Int32.le_refl _)) c38)
        refine SW.iload_n (q := 61) (i := 2) dX7_many_60 rfl rfl rfl ?_
        refine SW.iretR rfl rfl dX7_many_61 ?_
        exact ⟨t1, t2, 4, t3, fun z => absurd t4 z, fun _ => ⟨by omega, rfl⟩⟩
      | succ k ih =>
        intro p hp
        by_cases hs : sg_ (τ 48 p) (p ∈ ct_L n g wn 40 48 43 τ) (τ 55 p) &&& what = 0
        · have := ih (p + 1) (by omega)
          rw [lk_n_n (fun z => z hs)] at this
          refine SW.iload_n (q := 31) (i := 3) dX7_many_30 rfl rfl rfl ?_
          refine SW.aload_n (q := 32) (i := 0) dX7_many_31 rfl rfl rfl ?_
          refine SW.getR (q := 35) (i := 0) (j := 1) fX7_12 rfl rfl dX7_many_32 rfl ?_
          refine SW.getI (q := 38) (i := 1) fX7_93 rfl rfl dX7_many_35 rfl ?_
          refine SW.icmp_ge (q := 41) (tgt := 60) dX7_many_38 (by decide) rfl (fun c38 => absurd c38 ((by rw [epl]; exact nI_ge (by omega) (by omega)))) (fun _ => ?_)
          refine SW.aload_n (q := 42) (i := 0) dX7_many_41 rfl rfl rfl ?_
          refine SW.iload_n (q := 43) (i := 3) dX7_many_42 rfl rfl rfl ?_
          refine SW.cF (q := 46) (C_X7_signsOf (L := ct_L n g wn 40 48 43 τ) (p := p) c2 (Nat.le_trans ct_len t3.1.2.2.2.2.2) c3 (fun t z h => by have := (ct_ok.1 t z h).1; omega) rfl (by omega)) vX7_159 (by decide) rfl rfl rfl rfl (Nat.le_of_ble_eq_true rfl) dX7_many_43 rfl ?_
          refine SW.iload_n (q := 47) (i := 1) dX7_many_46 rfl rfl rfl ?_
          refine SW.iand (q := 48) dX7_many_47 rfl ?_
          refine SW.if_eq (q := 51) (tgt := 54) dX7_many_48 (by decide) rfl (fun _ => ?_) (fun c48 => absurd (hs) c48)
          refine SW.iinc (q := 57) (v := _ + 1) dX7_many_54 rfl rfl (by decide) rfl ?_
          refine SW.goto (q := 30) dX7_many_57 (by decide) ?_
          exact SW.eq (by rw [nI_1]; rfl) rfl rfl this
        · have := ih (p + 1) (by omega)
          rw [lk_n_y (P := fun q => ¬ sg_ (τ 48 q) (q ∈ ct_L n g wn 40 48 43 τ) (τ 55 q) &&& what = 0) hs] at this
          refine SW.iload_n (q := 31) (i := 3) dX7_many_30 rfl rfl rfl ?_
          refine SW.aload_n (q := 32) (i := 0) dX7_many_31 rfl rfl rfl ?_
          refine SW.getR (q := 35) (i := 0) (j := 1) fX7_12 rfl rfl dX7_many_32 rfl ?_
          refine SW.getI (q := 38) (i := 1) fX7_93 rfl rfl dX7_many_35 rfl ?_
          refine SW.icmp_ge (q := 41) (tgt := 60) dX7_many_38 (by decide) rfl (fun c38 => absurd c38 ((by rw [epl]; exact nI_ge (by omega) (by omega)))) (fun _ => ?_)
          refine SW.aload_n (q := 42) (i := 0) dX7_many_41 rfl rfl rfl ?_
          refine SW.iload_n (q := 43) (i := 3) dX7_many_42 rfl rfl rfl ?_
          refine SW.cF (q := 46) (C_X7_signsOf (L := ct_L n g wn 40 48 43 τ) (p := p) c2 (Nat.le_trans ct_len t3.1.2.2.2.2.2) c3 (fun t z h => by have := (ct_ok.1 t z h).1; omega) rfl (by omega)) vX7_159 (by decide) rfl rfl rfl rfl (Nat.le_of_ble_eq_true rfl) dX7_many_43 rfl ?_
          refine SW.iload_n (q := 47) (i := 1) dX7_many_46 rfl rfl rfl ?_
          refine SW.iand (q := 48) dX7_many_47 rfl ?_
          refine SW.if_eq (q := 51) (tgt := 54) dX7_many_48 (by decide) rfl (fun c48 => absurd c48 (hs)) (fun _ => ?_)
          refine SW.iinc (q := 54) (v := _ + 1) dX7_many_51 rfl rfl (by decide) rfl ?_
          refine SW.iinc (q := 57) (v := _ + 1) dX7_many_54 rfl rfl (by decide) rfl ?_
          refine SW.goto (q := 30) dX7_many_57 (by decide) ?_
          exact SW.eq (by rw [nI_1, nI_1]; rfl) rfl rfl this
    refine SW.iload_n (q := 1) (i := 1) dX7_many_0 rfl rfl rfl ?_
    refine SW.iconst (q := 2) (v := 1) dX7_many_1 (by decide) rfl ?_
    refine SW.bipush (q := 4) (v := 32) dX7_many_2 (by decide) rfl ?_
    refine SW.sF (q := 7) (C_X7_within) vX7_82 (by decide) rfl rfl (Nat.le_of_ble_eq_true rfl) dX7_many_4 rfl ?_
    refine SW.if_eq (q := 10) (tgt := 18) dX7_many_7 (by decide) rfl (fun c7 => absurd c7 ((sw_wi_1 hw.1 hw.2))) (fun _ => ?_)
    refine SW.iload_n (q := 11) (i := 1) dX7_many_10 rfl rfl rfl ?_
    refine SW.sR (q := 14) (C_bitCount (k := j) hj j32) vX7_162 (by decide) rfl rfl (Nat.le_of_ble_eq_true rfl) dX7_many_11 rfl (fun v11 u11 r11 => ?_)
    obtain ⟨rfl, b2⟩ := r11
    refine SW.iconst (q := 15) (v := 1) dX7_many_14 (by decide) rfl ?_
    refine SW.icmp_eq (q := 18) (tgt := 21) dX7_many_15 (by decide) rfl (fun c15 => ?_) (fun c15 => ?_)
    · refine SW.aload_n (q := 22) (i := 0) dX7_many_21 rfl rfl rfl ?_
      refine SW.iconst (q := 23) (v := 4) dX7_many_22 (by decide) rfl ?_
      refine SW.cV (q := 26) (C_X7_makeUpTo (s := 4) (M := 4) hI rfl (by decide) (Or.inr ⟨rfl, hI.2.2.1⟩)) vX7_110 (by decide) rfl rfl rfl rfl (Nat.le_of_ble_eq_true rfl) dX7_many_23 rfl (fun u23 r23 => ?_)
      obtain ⟨g1, g2⟩ := r23
      refine SW.iconst (q := 27) (v := 0) dX7_many_26 (by decide) rfl ?_
      refine SW.istore_n (q := 28) (i := 2) dX7_many_27 rfl (by decide) rfl ?_
      refine SW.iconst (q := 29) (v := 0) dX7_many_28 (by decide) rfl ?_
      refine SW.istore_n (q := 30) (i := 3) dX7_many_29 rfl (by decide) rfl ?_
      exact loop u23 (fc_fr g1 (by decide)) (ce_fr g1 (by decide)) g2 (b2.mp c15) (n * n) 0 (by omega)
    · refine SW.bipush (q := 20) (v := (-2)) dX7_many_18 (by decide) rfl ?_
      refine SW.iretR rfl rfl dX7_many_20 ?_
      exact ⟨fc_rf, ce_rf, k, hI, fun _ => rfl, fun z => absurd (b2.mpr z) c15⟩
  · have nb : ¬ bc_ok what := by
      unfold bc_ok
      rintro (rfl | rfl | rfl | rfl | rfl | rfl) <;> exact hw ⟨by decide, by decide⟩
    refine SW.iload_n (q := 1) (i := 1) dX7_many_0 rfl rfl rfl ?_
    refine SW.iconst (q := 2) (v := 1) dX7_many_1 (by decide) rfl ?_
    refine SW.bipush (q := 4) (v := 32) dX7_many_2 (by decide) rfl ?_
    refine SW.sF (q := 7) (C_X7_within) vX7_82 (by decide) rfl rfl (Nat.le_of_ble_eq_true rfl) dX7_many_4 rfl ?_
    refine SW.if_eq (q := 10) (tgt := 18) dX7_many_7 (by decide) rfl (fun _ => ?_) (fun c7 => absurd ((by unfold sw_wi; exact if_neg hw)) c7)
    refine SW.bipush (q := 20) (v := (-2)) dX7_many_18 (by decide) rfl ?_
    refine SW.iretR rfl rfl dX7_many_20 ?_
    exact ⟨fc_rf, ce_rf, k, hI, fun _ => rfl, fun z => absurd z nb⟩
end CMETH2
