/-! the reference's own methods: towns, costs, ways, the net -/
section MMETH3
variable {X : sw_X} {σ τ u : sw_Sg} {x y v w st what : Int32} {n a b c sea g br wn k s M p : Nat} {L : List Nat}
theorem mL_.I (z : mL_ n a b c sea g br wn σ) : mI_ n a b c sea g br wn σ := ⟨z.1, Or.inr z.2⟩
theorem C_X8_lay2 (hl : mL_ n a b c sea g br wn σ) : sw_Mv X 4 mX8_lay [.ref (sw_ad X 59)] σ (fun u => u = σ) := by
  refine sw_ME.ofF (by decide +kernel) rfl (Nat.le_of_ble_eq_true rfl) rfl ?_
  refine SW.aload_n (q := 1) (i := 0) dX8_lay_0 rfl rfl rfl ?_
  refine SW.getI (q := 4) (i := 59) fX8_76 rfl rfl dX8_lay_1 rfl ?_
  refine SW.if_ne (q := 7) (tgt := 24) dX8_lay_4 (by decide) rfl (fun _ => ?_) (fun c4 => absurd c4 ((by rw [hl.2.1]; decide)))
  refine SW.vretR rfl dX8_lay_24 ?_
  rfl
theorem C_X8_isTown (hI : mI_ n a b c sea g br wn σ) :
    sw_Mi X 5 mX8_isTown [.ref (sw_ad X 59), .int x] σ (fun v u => fr_ [59, 64, 65, 66, 67, 68, 69, 70, 71, 72, 73, 74, 75, 76] σ u ∧ fs_ [10, 18, 19, 21, 22, 23] σ u ∧ mL_ n a b c sea g br wn u ∧ (mL_ n a b c sea g br wn σ → u = σ) ∧ (¬ v = 0 ↔ ∃ i, i < (ct_L n g wn 64 70 69 u).length ∧ x = nI i)) := by
  refine sw_ME.ofF (by decide +kernel) rfl (Nat.le_of_ble_eq_true rfl) rfl ?_
  by_cases hl : mL_ n a b c sea g br wn σ
  · have e19 := (mL_L hl).1
    refine SW.aload_n (q := 1) (i := 0) dX8_isTown_0 rfl rfl rfl ?_
    refine SW.cV (q := 4) (C_X8_lay2 hl) vX8_177 (by decide) rfl rfl rfl rfl (Nat.le_of_ble_eq_true rfl) dX8_isTown_1 rfl (fun u1 r1 => ?_)
    obtain rfl := r1
    refine SW.iload_n (q := 5) (i := 1) dX8_isTown_4 rfl rfl rfl ?_
    refine SW.iconst (q := 6) (v := 0) dX8_isTown_5 (by decide) rfl ?_
    refine SW.aload_n (q := 7) (i := 0) dX8_isTown_6 rfl rfl rfl ?_
    refine SW.getI (q := 10) (i := 59) fX8_134 rfl rfl dX8_isTown_7 rfl ?_
    refine SW.iconst (q := 11) (v := 1) dX8_isTown_10 (by decide) rfl ?_
    refine SW.isub (q := 12) dX8_isTown_11 rfl ?_
    refine SW.sF (q := 15) (C_X8_in) vX8_69 (by decide) rfl rfl (Nat.le_of_ble_eq_true rfl) dX8_isTown_12 rfl ?_
    refine SW.iretR rfl (by unfold sw_wi; split <;> rfl) dX8_isTown_15 ?_
    refine ⟨fr_rf, fs_rf, hl, fun _ => rfl, ?_⟩
    rw [e19]
    exact tn_wi (mL_L hl).2.1
  · refine SW.aload_n (q := 1) (i := 0) dX8_isTown_0 rfl rfl rfl ?_
    refine SW.cV (q := 4) (C_X8_lay hI) vX8_177 (by decide) rfl rfl rfl rfl (Nat.le_of_ble_eq_true rfl) dX8_isTown_1 rfl (fun u1 r1 => ?_)
    obtain ⟨g1, g2, g3⟩ := r1
    refine SW.iload_n (q := 5) (i := 1) dX8_isTown_4 rfl rfl rfl ?_
    refine SW.iconst (q := 6) (v := 0) dX8_isTown_5 (by decide) rfl ?_
    refine SW.aload_n (q := 7) (i := 0) dX8_isTown_6 rfl rfl rfl ?_
    refine SW.getI (q := 10) (i := 59) fX8_134 rfl rfl dX8_isTown_7 rfl ?_
    refine SW.iconst (q := 11) (v := 1) dX8_isTown_10 (by decide) rfl ?_
    refine SW.isub (q := 12) dX8_isTown_11 rfl ?_
    refine SW.sF (q := 15) (C_X8_in) vX8_69 (by decide) rfl rfl (Nat.le_of_ble_eq_true rfl) dX8_isTown_12 rfl ?_
    refine SW.iretR rfl (by unfold sw_wi; split <;> rfl) dX8_isTown_15 ?_
    refine ⟨g1, g2, g3, fun z => absurd z hl, ?_⟩
    rw [(mL_L g3).1]
    exact tn_wi (mL_L g3).2.1
theorem C_X8_town (hI : mI_ n a b c sea g br wn σ) :
    sw_Mi X 6 mX8_town [.ref (sw_ad X 59), .int x] σ (fun v u => mQ_ n a b c sea g br wn σ u ∧ ((¬ ∃ i, i < (ct_L n g wn 64 70 69 u).length ∧ x = nI i) → v = -1) ∧ ∀ i, i < (ct_L n g wn 64 70 69 u).length → x = nI i → v = nI (ct_p (ct_L n g wn 64 70 69 u) i)) := by
  refine sw_ME.ofF (by decide +kernel) rfl (Nat.le_of_ble_eq_true rfl) rfl ?_
  refine SW.aload_n (q := 1) (i := 0) dX8_town_0 rfl rfl rfl ?_
  refine SW.iload_n (q := 2) (i := 1) dX8_town_1 rfl rfl rfl ?_
  refine SW.cR (q := 5) (C_X8_isTown hI) vX8_189 (by decide) rfl rfl rfl rfl (Nat.le_of_ble_eq_true rfl) dX8_town_2 rfl (fun v2 u2 r2 => ?_)
  obtain ⟨g1, g2, g3, -, g4⟩ := r2
  obtain ⟨c2, c6, c3⟩ := mL_L g3
  have hQ : mQ_ n a b c sea g br wn σ u2 := ⟨fm_fr g1 (by decide), me_fr g1 g2 (by decide) (by decide), g3⟩
  refine SW.if_eq (q := 8) (tgt := 17) dX8_town_5 (by decide) rfl (fun c5 => ?_) (fun c5 => ?_)
  · refine SW.iconst (q := 18) (v := (-1)) dX8_town_17 (by decide) rfl ?_
    refine SW.iretR rfl rfl dX8_town_18 ?_
    first
    | exact ⟨hQ, fun z => absurd ⟨i, i1, rfl⟩ z, fun i' h' e => by rw [nI_eq (by omega) (by omega)] at e; subst e; exact (c3 i i1).1⟩
    | exact ⟨hQ, fun _ => rfl, fun i' h' e => absurd c5 (g4.mpr ⟨i', h', e⟩)⟩
  · obtain ⟨i, i1, rfl⟩ := g4.mp c5
    refine SW.aload_n (q := 9) (i := 0) dX8_town_8 rfl rfl rfl ?_
    refine SW.getR (q := 12) (i := 59) (j := 71) fX8_47 rfl rfl dX8_town_9 rfl ?_
    refine SW.iload_n (q := 13) (i := 1) dX8_town_12 rfl rfl rfl ?_
    refine SW.ialdN (q := 14) (k := i) rfl (rfl) (by omega) (by decide) dX8_town_13 rfl ?_
    refine SW.goto (q := 18) dX8_town_14 (by decide) ?_
    refine SW.iretR rfl rfl dX8_town_18 ?_
    first
    | exact ⟨hQ, fun z => absurd ⟨i, i1, rfl⟩ z, fun i' h' e => by rw [nI_eq (by omega) (by omega)] at e; subst e; exact (c3 i i1).1⟩
    | exact ⟨hQ, fun _ => rfl, fun i' h' e => absurd c5 (g4.mpr ⟨i', h', e⟩)⟩
theorem C_X8_cost (hI : mI_ n a b c sea g br wn σ) :
    sw_Mi X 6 mX8_cost [.ref (sw_ad X 59), .int x, .int y] σ (fun v u => mQ_ n a b c sea g br wn σ u ∧ ((¬ ((∃ i, i < (ct_L n g wn 64 70 69 u).length ∧ x = nI i) ∧ ∃ j, j < (ct_L n g wn 64 70 69 u).length ∧ y = nI j)) → v = -1) ∧ ∀ i j, i < (ct_L n g wn 64 70 69 u).length → j < (ct_L n g wn 64 70 69 u).length → x = nI i → y = nI j →
      ∃ h d, (∀ p, p < n * n → u 64 p = nI (h p) ∧ h p ≤ 400) ∧ nt_ok n h (u 70) br (ct_p (ct_L n g wn 64 70 69 u) j) d ∧ v = gr_v (d (ct_p (ct_L n g wn 64 70 69 u) i))) := by
  have n24 : n ≤ 24 := hI.1.1.2.1
  have h576 := gr_576 n24
  refine sw_ME.ofF (by decide +kernel) rfl (Nat.le_of_ble_eq_true rfl) rfl ?_
  refine SW.aload_n (q := 1) (i := 0) dX8_cost_0 rfl rfl rfl ?_
  refine SW.iload_n (q := 2) (i := 1) dX8_cost_1 rfl rfl rfl ?_
  refine SW.cR (q := 5) (C_X8_isTown hI) vX8_189 (by decide) rfl rfl rfl rfl (Nat.le_of_ble_eq_true rfl) dX8_cost_2 rfl (fun v2 u2 r2 => ?_)
  obtain ⟨g1, g2, g3, -, g4⟩ := r2
  obtain ⟨c2, c6, c3⟩ := mL_L g3
  have hQ : mQ_ n a b c sea g br wn σ u2 := ⟨fm_fr g1 (by decide), me_fr g1 g2 (by decide) (by decide), g3⟩
  refine SW.if_eq (q := 8) (tgt := 16) dX8_cost_5 (by decide) rfl (fun c5 => ?_) (fun c5 => ?_)
  · refine SW.iconst (q := 17) (v := (-1)) dX8_cost_16 (by decide) rfl ?_
    refine SW.iretR rfl rfl dX8_cost_17 ?_
    first
    | exact ⟨hQ, fun _ => rfl, fun i' j' h' h'' e e' => absurd c13 (g5.mpr ⟨j', h'', e'⟩)⟩
    | exact ⟨hQ, fun _ => rfl, fun i' j' h' h'' e e' => absurd c5 (g4.mpr ⟨i', h', e⟩)⟩
  · refine SW.aload_n (q := 9) (i := 0) dX8_cost_8 rfl rfl rfl ?_
    refine SW.iload_n (q := 10) (i := 2) dX8_cost_9 rfl rfl rfl ?_
    refine SW.cR (q := 13) (C_X8_isTown g3.I) vX8_189 (by decide) rfl rfl rfl rfl (Nat.le_of_ble_eq_true rfl) dX8_cost_10 rfl (fun v10 u10 r10 => ?_)
    obtain ⟨-, -, -, e, g5⟩ := r10
    obtain rfl := e g3
    refine SW.if_ne (q := 16) (tgt := 18) dX8_cost_13 (by decide) rfl (fun c13 => ?_) (fun c13 => ?_)
    · obtain ⟨i, i1, rfl⟩ := g4.mp c5
      obtain ⟨j, j1, rfl⟩ := g5.mp c13
      obtain ⟨p1, p2, p3⟩ := c3 i i1
      obtain ⟨r1, r2, r3⟩ := c3 j j1
      obtain ⟨hK, hl, hh, m1, ⟨T, lv, od, D, m2⟩, -⟩ := id g3
      have hG : rk_G n hh (u10 70) br u10 := ⟨hK.1, fun p hp => ⟨(m1 p hp).2.2, (m1 p hp).2.1⟩, rfl, hK.2.2.2.1.2.2.2.2.2.1, hK.2.2.2.1.2.2.2.2.2.2, fun p hp => ww_pass m2 hp⟩
      refine SW.aload_n (q := 19) (i := 0) dX8_cost_18 rfl rfl rfl ?_
      refine SW.aload_n (q := 20) (i := 0) dX8_cost_19 rfl rfl rfl ?_
      refine SW.getR (q := 23) (i := 59) (j := 71) fX8_47 rfl rfl dX8_cost_20 rfl ?_
      refine SW.iload_n (q := 24) (i := 2) dX8_cost_23 rfl rfl rfl ?_
      refine SW.ialdN (q := 25) (k := j) rfl (rfl) (by omega) (by decide) dX8_cost_24 rfl ?_
      rw [r1]
      refine SW.cV (q := 28) (C_X8_reckon hG rfl r2) vX8_161 (by decide) rfl rfl rfl rfl (Nat.le_of_ble_eq_true rfl) dX8_cost_25 rfl (fun u25 r25 => ?_)
      obtain ⟨w1, d, w2, w3⟩ := r25
      have q71 : u25 71 i = nI (ct_p (ct_L n g wn 64 70 69 u10) i) := by rw [w1 71 (by decide)]; exact p1
      have q75 := w3 _ p2
      have hQ2 : mQ_ n a b c sea g br wn σ u25 := ⟨fun i hi => by rw [w1 i (by simp; omega)]; exact hQ.1 i hi, by have := hQ.2.1; unfold me_; rw [w1 59 (by decide), w1 60 (by decide), w1 61 (by decide), w1 62 (by decide), w1 63 (by decide)]; exact this, g3.fr w1 (by decide)⟩
      have eL : ct_L n g wn 64 70 69 u25 = ct_L n g wn 64 70 69 u10 := by unfold ct_L; rw [w1 64 (by decide), w1 70 (by decide), w1 69 (by decide)]
      have bd := nt_bd n24 w2
      refine SW.aload_n (q := 29) (i := 0) dX8_cost_28 rfl rfl rfl ?_
      refine SW.getR (q := 32) (i := 59) (j := 75) fX8_59 rfl rfl dX8_cost_29 rfl ?_
      refine SW.aload_n (q := 33) (i := 0) dX8_cost_32 rfl rfl rfl ?_
      refine SW.getR (q := 36) (i := 59) (j := 71) fX8_47 rfl rfl dX8_cost_33 rfl ?_
      refine SW.iload_n (q := 37) (i := 1) dX8_cost_36 rfl rfl rfl ?_
      refine SW.ialdN (q := 38) (k := i) rfl (rfl) (by omega) (by decide) dX8_cost_37 rfl ?_
      refine SW.ialdN (q := 39) (k := ct_p (ct_L n g wn 64 70 69 u10) i) rfl (q71) (by omega) (by decide) dX8_cost_38 rfl ?_
      refine SW.if_ge (q := 42) (tgt := 47) dX8_cost_39 (by decide) rfl (fun c39 => ?_) (fun c39 => ?_)
      · refine SW.aload_n (q := 48) (i := 0) dX8_cost_47 rfl rfl rfl ?_
        refine SW.getR (q := 51) (i := 59) (j := 75) fX8_59 rfl rfl dX8_cost_48 rfl ?_
        refine SW.aload_n (q := 52) (i := 0) dX8_cost_51 rfl rfl rfl ?_
        refine SW.getR (q := 55) (i := 59) (j := 71) fX8_47 rfl rfl dX8_cost_52 rfl ?_
        refine SW.iload_n (q := 56) (i := 1) dX8_cost_55 rfl rfl rfl ?_
        refine SW.ialdN (q := 57) (k := i) rfl (rfl) (by omega) (by decide) dX8_cost_56 rfl ?_
        refine SW.ialdN (q := 58) (k := ct_p (ct_L n g wn 64 70 69 u10) i) rfl (q71) (by omega) (by decide) dX8_cost_57 rfl ?_
        refine SW.iretR rfl rfl dX8_cost_58 ?_
        refine ⟨hQ2, fun z => absurd (by rw [eL]; exact ⟨⟨i, i1, rfl⟩, j, j1, rfl⟩) z, fun i' j' h' h'' e e' => ?_⟩
        rw [eL] at h' h'' ⊢
        rw [nI_eq (by omega) (by omega)] at e e'
        subst e
        subst e'
        refine ⟨hh, d, fun p hp => by rw [w1 64 (by decide)]; exact ⟨(m1 p hp).2.2, (m1 p hp).2.1⟩, by rw [w1 70 (by decide)]; exact w2, ?_⟩
        cases hd : d (ct_p (ct_L n g wn 64 70 69 u10) i) with
        | none =>
          rw [hd] at q75
          first
          | rfl
          | exact absurd (show (0 : Int32) ≤ u25 75 (ct_p (ct_L n g wn 64 70 69 u10) i) from c39) (by rw [q75]; decide)
        | some dc =>
          rw [hd] at q75
          have := bd _ dc hd
          first
          | exact q75
          | exact absurd (show (0 : Int32) ≤ u25 75 (ct_p (ct_L n g wn 64 70 69 u10) i) by rw [q75]; exact nI_pos' (by omega)) c39
      · refine SW.bipush (q := 44) (v := (-6)) dX8_cost_42 (by decide) rfl ?_
        refine SW.goto (q := 58) dX8_cost_44 (by decide) ?_
        refine SW.iretR rfl rfl dX8_cost_58 ?_
        refine ⟨hQ2, fun z => absurd (by rw [eL]; exact ⟨⟨i, i1, rfl⟩, j, j1, rfl⟩) z, fun i' j' h' h'' e e' => ?_⟩
        rw [eL] at h' h'' ⊢
        rw [nI_eq (by omega) (by omega)] at e e'
        subst e
        subst e'
        refine ⟨hh, d, fun p hp => by rw [w1 64 (by decide)]; exact ⟨(m1 p hp).2.2, (m1 p hp).2.1⟩, by rw [w1 70 (by decide)]; exact w2, ?_⟩
        cases hd : d (ct_p (ct_L n g wn 64 70 69 u10) i) with
        | none =>
          rw [hd] at q75
          first
          | rfl
          | exact absurd (show (0 : Int32) ≤ u25 75 (ct_p (ct_L n g wn 64 70 69 u10) i) from c39) (by rw [q75]; decide)
        | some dc =>
          rw [hd] at q75
          have := bd _ dc hd
          first
          | exact q75
          | exact absurd (show (0 : Int32) ≤ u25 75 (ct_p (ct_L n g wn 64 70 69 u10) i) by rw [q75]; exact nI_pos' (by omega)) c39
    · refine SW.iconst (q := 17) (v := (-1)) dX8_cost_16 (by decide) rfl ?_
      refine SW.iretR rfl rfl dX8_cost_17 ?_
      first
      | exact ⟨hQ, fun _ => rfl, fun i' j' h' h'' e e' => absurd c13 (g5.mpr ⟨j', h'', e'⟩)⟩
      | exact ⟨hQ, fun _ => rfl, fun i' j' h' h'' e e' => absurd c5 (g4.mpr ⟨i', h', e⟩)⟩
end MMETH3
