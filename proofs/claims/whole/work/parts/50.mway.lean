/-! the reference's own methods: ways -/
section MWAY
variable {X : sw_X} {σ τ u : sw_Sg} {x y v w st what : Int32} {n a b c sea g br wn k s M p : Nat} {L : List Nat}
theorem C_X8_way (hI : mI_ n a b c sea g br wn σ) :
    sw_Mi X 6 mX8_way [.ref (sw_ad X 59), .int x, .int y, .int w] σ (fun v u => mQ_ n a b c sea g br wn σ u ∧ ((¬ ((∃ i, i < (ct_L n g wn 64 70 69 u).length ∧ x = nI i) ∧ ∃ j, j < (ct_L n g wn 64 70 69 u).length ∧ y = nI j)) → v = -1) ∧ ∀ i j, i < (ct_L n g wn 64 70 69 u).length → j < (ct_L n g wn 64 70 69 u).length → x = nI i → y = nI j →
      ∃ h d, (∀ p, p < n * n → u 64 p = nI (h p) ∧ h p ≤ 400) ∧ nt_ok n h (u 70) br (ct_p (ct_L n g wn 64 70 69 u) j) d ∧ v = (if w < 0 ∨ d (ct_p (ct_L n g wn 64 70 69 u) i) = none then -6 else gr_v (nt_wy (fun a => nt_nx n h (u 70) br d a 4) w.toInt.toNat (some (ct_p (ct_L n g wn 64 70 69 u) i))))) := by
  have n24 : n ≤ 24 := hI.1.1.2.1
  have h576 := gr_576 n24
  refine sw_ME.ofF (by decide +kernel) rfl (Nat.le_of_ble_eq_true rfl) rfl ?_
  have steps : ∀ (τ : sw_Sg) (h : Nat → Nat) (d : Nat → Option Nat) (i j pj : Nat) (Q : Int32 → sw_Sg → Prop), rk_G n h (τ 70) br τ → nt_ok n h (τ 70) br pj d → nt_lf n d τ → j < 6 → τ 71 j = nI pj → pj < n * n → ∀ (A W : Nat), W < 2 ^ 31 → ∀ (k t : Nat), t + k = W → ∀ (o : Option Nat), (∀ q, o = some q → q < n * n) → Q (gr_v (nt_wy (fun a => nt_nx n h (τ 70) br d a 4) k o)) τ →
      SW X 6 mX8_way sw_E0 (sw_Ri Q) 60 [.ref (sw_ad X 59), .int (nI i), .int (nI j), .int (nI W), .int (gr_v o), .int (nI t)] [] τ := by
    intro τ h d i j pj Q hG ok hl j6 e71 hpj A W hW k
    induction k with
    | zero =>
      intro t ht o ho hQ
      obtain rfl : t = W := by omega
      refine SW.iload (q := 62) (i := 5) dX8_way_60 rfl rfl ?_
      refine SW.iload_n (q := 63) (i := 3) dX8_way_62 rfl rfl rfl ?_
      refine SW.icmp_ge (q := 66) (tgt := 101) dX8_way_63 (by decide) rfl (fun _ => ?_) (fun c63 => absurd ((Int32.le_refl _)) c63)
      refine SW.iload (q := 103) (i := 4) dX8_way_101 rfl rfl ?_
      refine SW.iretR rfl rfl dX8_way_103 ?_
      exact hQ
    | succ k ih =>
      intro t ht o ho hQ
      cases o with
      | none =>
        rw [wy_none] at hQ
        refine SW.iload (q := 62) (i := 5) dX8_way_60 rfl rfl ?_
        refine SW.iload_n (q := 63) (i := 3) dX8_way_62 rfl rfl rfl ?_
        refine SW.icmp_ge (q := 66) (tgt := 101) dX8_way_63 (by decide) rfl (fun c63 => absurd c63 ((nI_ge (by omega) (by omega)))) (fun _ => ?_)
        refine SW.iload (q := 68) (i := 4) dX8_way_66 rfl rfl ?_
        refine SW.if_lt (q := 71) (tgt := 101) dX8_way_68 (by decide) rfl (fun _ => ?_) (fun c68 => absurd ((by decide)) c68)
        refine SW.iload (q := 103) (i := 4) dX8_way_101 rfl rfl ?_
        refine SW.iretR rfl rfl dX8_way_103 ?_
        exact hQ
      | some q =>
        have hq := ho q rfl
        have qi : gr_v (some q) = nI q := rfl
        have hQ' : Q (gr_v (nt_wy (fun a => nt_nx n h (τ 70) br d a 4) k (nt_nx n h (τ 70) br d q 4))) τ := hQ
        have nx := ih (t + 1) (by omega) (nt_nx n h (τ 70) br d q 4) (fun r e => nx_lt q r hq e) hQ'
        by_cases e : q = pj
        · rw [e, nx_s ok] at nx
          refine SW.iload (q := 62) (i := 5) dX8_way_60 rfl rfl ?_
          refine SW.iload_n (q := 63) (i := 3) dX8_way_62 rfl rfl rfl ?_
          refine SW.icmp_ge (q := 66) (tgt := 101) dX8_way_63 (by decide) rfl (fun c63 => absurd c63 ((nI_ge (by omega) (by omega)))) (fun _ => ?_)
          refine SW.iload (q := 68) (i := 4) dX8_way_66 rfl rfl ?_
          refine SW.if_lt (q := 71) (tgt := 101) dX8_way_68 (by decide) rfl (fun c68 => absurd c68 ((by rw [qi]; exact nI_pos (by omega)))) (fun _ => ?_)
          refine SW.iload (q := 73) (i := 4) dX8_way_71 rfl rfl ?_
          refine SW.aload_n (q := 74) (i := 0) dX8_way_73 rfl rfl rfl ?_
          refine SW.getR (q := 77) (i := 59) (j := 71) fX8_47 rfl rfl dX8_way_74 rfl ?_
          refine SW.iload_n (q := 78) (i := 2) dX8_way_77 rfl rfl rfl ?_
          refine SW.ialdN (q := 79) (k := j) rfl (rfl) (by omega) (by decide) dX8_way_78 rfl ?_
          refine SW.icmp_ne (q := 82) (tgt := 87) dX8_way_79 (by decide) rfl (fun c79 => absurd ((by rw [qi, e71, e])) c79) (fun _ => ?_)
          refine SW.bipush (q := 84) (v := (-6)) dX8_way_82 (by decide) rfl ?_
          refine SW.goto (q := 93) dX8_way_84 (by decide) ?_
          refine SW.istore (q := 95) (i := 4) dX8_way_93 (by decide) rfl ?_
          refine SW.iinc (q := 98) (v := _ + 1) dX8_way_95 rfl rfl (by decide) rfl ?_
          refine SW.goto (q := 60) dX8_way_98 (by decide) ?_
          exact SW.eq (by rw [nI_1]; rfl) rfl rfl nx
        · refine SW.iload (q := 62) (i := 5) dX8_way_60 rfl rfl ?_
          refine SW.iload_n (q := 63) (i := 3) dX8_way_62 rfl rfl rfl ?_
          refine SW.icmp_ge (q := 66) (tgt := 101) dX8_way_63 (by decide) rfl (fun c63 => absurd c63 ((nI_ge (by omega) (by omega)))) (fun _ => ?_)
          refine SW.iload (q := 68) (i := 4) dX8_way_66 rfl rfl ?_
          refine SW.if_lt (q := 71) (tgt := 101) dX8_way_68 (by decide) rfl (fun c68 => absurd c68 ((by rw [qi]; exact nI_pos (by omega)))) (fun _ => ?_)
          refine SW.iload (q := 73) (i := 4) dX8_way_71 rfl rfl ?_
          refine SW.aload_n (q := 74) (i := 0) dX8_way_73 rfl rfl rfl ?_
          refine SW.getR (q := 77) (i := 59) (j := 71) fX8_47 rfl rfl dX8_way_74 rfl ?_
          refine SW.iload_n (q := 78) (i := 2) dX8_way_77 rfl rfl rfl ?_
          refine SW.ialdN (q := 79) (k := j) rfl (rfl) (by omega) (by decide) dX8_way_78 rfl ?_
          refine SW.icmp_ne (q := 82) (tgt := 87) dX8_way_79 (by decide) rfl (fun _ => ?_) (fun c79 => absurd c79 ((by rw [qi, e71, nI_eq (by omega) (by omega)]; exact e)))
          refine SW.aload_n (q := 88) (i := 0) dX8_way_87 rfl rfl rfl ?_
          refine SW.iload (q := 90) (i := 4) dX8_way_88 rfl rfl ?_
          refine SW.cF (q := 93) (C_X8_next (d := d) (p := q) hG (nt_bd n24 ok) hl qi hq) vX8_165 (by decide) rfl rfl rfl rfl (Nat.le_of_ble_eq_true rfl) dX8_way_90 rfl ?_
          refine SW.istore (q := 95) (i := 4) dX8_way_93 (by decide) rfl ?_
          refine SW.iinc (q := 98) (v := _ + 1) dX8_way_95 rfl rfl (by decide) rfl ?_
          refine SW.goto (q := 60) dX8_way_98 (by decide) ?_
          exact SW.eq (by rw [nI_1]; rfl) rfl rfl nx
  refine SW.aload_n (q := 1) (i := 0) dX8_way_0 rfl rfl rfl ?_
  refine SW.iload_n (q := 2) (i := 1) dX8_way_1 rfl rfl rfl ?_
  refine SW.cR (q := 5) (C_X8_isTown hI) vX8_189 (by decide) rfl rfl rfl rfl (Nat.le_of_ble_eq_true rfl) dX8_way_2 rfl (fun v2 u2 r2 => ?_)
  obtain ⟨g1, g2, g3, -, g4⟩ := r2
  obtain ⟨c2, c6, c3⟩ := mL_L g3
  have hQ : mQ_ n a b c sea g br wn σ u2 := ⟨fm_fr g1 (by decide), me_fr g1 g2 (by decide) (by decide), g3⟩
  refine SW.if_eq (q := 8) (tgt := 16) dX8_way_5 (by decide) rfl (fun c5 => ?_) (fun c5 => ?_)
  · refine SW.iconst (q := 17) (v := (-1)) dX8_way_16 (by decide) rfl ?_
    refine SW.iretR rfl rfl dX8_way_17 ?_
    first
    | exact ⟨hQ, fun _ => rfl, fun i' j' h' h'' e e' => absurd c13 (g5.mpr ⟨j', h'', e'⟩)⟩
    | exact ⟨hQ, fun _ => rfl, fun i' j' h' h'' e e' => absurd c5 (g4.mpr ⟨i', h', e⟩)⟩
  · refine SW.aload_n (q := 9) (i := 0) dX8_way_8 rfl rfl rfl ?_
    refine SW.iload_n (q := 10) (i := 2) dX8_way_9 rfl rfl rfl ?_
    refine SW.cR (q := 13) (C_X8_isTown g3.I) vX8_189 (by decide) rfl rfl rfl rfl (Nat.le_of_ble_eq_true rfl) dX8_way_10 rfl (fun v10 u10 r10 => ?_)
    obtain ⟨-, -, -, e, g5⟩ := r10
    obtain rfl := e g3
    refine SW.if_ne (q := 16) (tgt := 18) dX8_way_13 (by decide) rfl (fun c13 => ?_) (fun c13 => ?_)
    · obtain ⟨i, i1, rfl⟩ := g4.mp c5
      obtain ⟨j, j1, rfl⟩ := g5.mp c13
      obtain ⟨p1, p2, p3⟩ := c3 i i1
      obtain ⟨r1, r2, r3⟩ := c3 j j1
      obtain ⟨hK, hl, hh, m1, ⟨T, lv, od, D, m2⟩, -⟩ := id g3
      have hG : rk_G n hh (u10 70) br u10 := ⟨hK.1, fun p hp => ⟨(m1 p hp).2.2, (m1 p hp).2.1⟩, rfl, hK.2.2.2.1.2.2.2.2.2.1, hK.2.2.2.1.2.2.2.2.2.2, fun p hp => ww_pass m2 hp⟩
      refine SW.aload_n (q := 19) (i := 0) dX8_way_18 rfl rfl rfl ?_
      refine SW.aload_n (q := 20) (i := 0) dX8_way_19 rfl rfl rfl ?_
      refine SW.getR (q := 23) (i := 59) (j := 71) fX8_47 rfl rfl dX8_way_20 rfl ?_
      refine SW.iload_n (q := 24) (i := 2) dX8_way_23 rfl rfl rfl ?_
      refine SW.ialdN (q := 25) (k := j) rfl (rfl) (by omega) (by decide) dX8_way_24 rfl ?_
      rw [r1]
      refine SW.cV (q := 28) (C_X8_reckon hG rfl r2) vX8_161 (by decide) rfl rfl rfl rfl (Nat.le_of_ble_eq_true rfl) dX8_way_25 rfl (fun u25 r25 => ?_)
      obtain ⟨w1, d, w2, w3⟩ := r25
      have q71 : u25 71 i = nI (ct_p (ct_L n g wn 64 70 69 u10) i) := by rw [w1 71 (by decide)]; exact p1
      have j71 : u25 71 j = nI (ct_p (ct_L n g wn 64 70 69 u10) j) := by rw [w1 71 (by decide)]; exact r1
      have q75 := w3 _ p2
      have hQ2 : mQ_ n a b c sea g br wn σ u25 := ⟨fun i hi => by rw [w1 i (by simp; omega)]; exact hQ.1 i hi, by have := hQ.2.1; unfold me_; rw [w1 59 (by decide), w1 60 (by decide), w1 61 (by decide), w1 62 (by decide), w1 63 (by decide)]; exact this, g3.fr w1 (by decide)⟩
      have eL : ct_L n g wn 64 70 69 u25 = ct_L n g wn 64 70 69 u10 := by unfold ct_L; rw [w1 64 (by decide), w1 70 (by decide), w1 69 (by decide)]
      have bd := nt_bd n24 w2
      have e70 : u25 70 = u10 70 := w1 70 (by decide)
      rw [← e70] at w2
      have fin : ∀ v, v = (if w < 0 ∨ d (ct_p (ct_L n g wn 64 70 69 u10) i) = none then -6 else gr_v (nt_wy (fun a => nt_nx n hh (u25 70) br d a 4) w.toInt.toNat (some (ct_p (ct_L n g wn 64 70 69 u10) i)))) → (mQ_ n a b c sea g br wn σ u25 ∧ ((¬ ((∃ i', i' < (ct_L n g wn 64 70 69 u25).length ∧ nI i = nI i') ∧ ∃ j', j' < (ct_L n g wn 64 70 69 u25).length ∧ nI j = nI j')) → v = -1) ∧ ∀ i' j', i' < (ct_L n g wn 64 70 69 u25).length → j' < (ct_L n g wn 64 70 69 u25).length → nI i = nI i' → nI j = nI j' →
          ∃ h d, (∀ p, p < n * n → u25 64 p = nI (h p) ∧ h p ≤ 400) ∧ nt_ok n h (u25 70) br (ct_p (ct_L n g wn 64 70 69 u25) j') d ∧ v = (if w < 0 ∨ d (ct_p (ct_L n g wn 64 70 69 u25) i') = none then -6 else gr_v (nt_wy (fun a => nt_nx n h (u25 70) br d a 4) w.toInt.toNat (some (ct_p (ct_L n g wn 64 70 69 u25) i'))))) := by
        intro v hv
        refine ⟨hQ2, fun z => absurd (by rw [eL]; exact ⟨⟨i, i1, rfl⟩, j, j1, rfl⟩) z, fun i' j' h' h'' e e' => ?_⟩
        rw [eL] at h' h'' ⊢
        rw [nI_eq (by omega) (by omega)] at e e'
        subst e
        subst e'
        exact ⟨hh, d, fun p hp => by rw [w1 64 (by decide)]; exact ⟨(m1 p hp).2.2, (m1 p hp).2.1⟩, w2, hv⟩
      refine SW.iload_n (q := 29) (i := 3) dX8_way_28 rfl rfl rfl ?_
      refine SW.if_lt (q := 32) (tgt := 46) dX8_way_29 (by decide) rfl (fun c29 => ?_) (fun c29 => ?_)
      · refine SW.bipush (q := 48) (v := (-6)) dX8_way_46 (by decide) rfl ?_
        refine SW.iretR rfl rfl dX8_way_48 ?_
        refine fin _ ?_
        refine (if_pos ?_).symm
        first
        | exact Or.inl c29
        | (refine Or.inr ?_
           cases hd : d (ct_p (ct_L n g wn 64 70 69 u10) i) with
           | none => rfl
           | some dc =>
             rw [hd] at q75
             have := bd _ dc hd
             exact absurd (show (0 : Int32) ≤ u25 75 (ct_p (ct_L n g wn 64 70 69 u10) i) by rw [q75]; exact nI_pos' (by omega)) c43)
      · refine SW.aload_n (q := 33) (i := 0) dX8_way_32 rfl rfl rfl ?_
        refine SW.getR (q := 36) (i := 59) (j := 75) fX8_59 rfl rfl dX8_way_33 rfl ?_
        refine SW.aload_n (q := 37) (i := 0) dX8_way_36 rfl rfl rfl ?_
        refine SW.getR (q := 40) (i := 59) (j := 71) fX8_47 rfl rfl dX8_way_37 rfl ?_
        refine SW.iload_n (q := 41) (i := 1) dX8_way_40 rfl rfl rfl ?_
        refine SW.ialdN (q := 42) (k := i) rfl (rfl) (by omega) (by decide) dX8_way_41 rfl ?_
        refine SW.ialdN (q := 43) (k := ct_p (ct_L n g wn 64 70 69 u10) i) rfl (q71) (by omega) (by decide) dX8_way_42 rfl ?_
        refine SW.if_ge (q := 46) (tgt := 49) dX8_way_43 (by decide) rfl (fun c43 => ?_) (fun c43 => ?_)
        · refine SW.aload_n (q := 50) (i := 0) dX8_way_49 rfl rfl rfl ?_
          refine SW.getR (q := 53) (i := 59) (j := 71) fX8_47 rfl rfl dX8_way_50 rfl ?_
          refine SW.iload_n (q := 54) (i := 1) dX8_way_53 rfl rfl rfl ?_
          refine SW.ialdN (q := 55) (k := i) rfl (rfl) (by omega) (by decide) dX8_way_54 rfl ?_
          refine SW.istore (q := 57) (i := 4) dX8_way_55 (by decide) rfl ?_
          refine SW.iconst (q := 58) (v := 0) dX8_way_57 (by decide) rfl ?_
          refine SW.istore (q := 60) (i := 5) dX8_way_58 (by decide) rfl ?_
          obtain ⟨W, rfl, hW⟩ : ∃ W, w = nI W ∧ W < 2 ^ 31 := by
            have h1 := Int32.toInt_lt w
            have h0 : 0 ≤ w.toInt := i_le.mp (Int32.not_lt.mp c29)
            refine ⟨w.toInt.toNat, ?_, by omega⟩
            apply Int32.toInt_inj.mp
            rw [nI_toInt (by omega)]
            omega
          have eW : (nI W).toInt.toNat = W := by rw [nI_toInt hW]; rfl
          have hdn : ¬ d (ct_p (ct_L n g wn 64 70 69 u10) i) = none := by
            intro hd
            rw [hd] at q75
            exact absurd (show (0 : Int32) ≤ u25 75 (ct_p (ct_L n g wn 64 70 69 u10) i) from c43) (by rw [q75]; decide)
          rw [q71]
          refine steps u25 hh d i j (ct_p (ct_L n g wn 64 70 69 u10) j) _ (by rw [e70]; exact hG.fr w1 (by decide) (by decide) (by decide) (by decide)) w2 w3 (by omega) j71 r2 0 W hW W 0 (by omega) (some (ct_p (ct_L n g wn 64 70 69 u10) i)) (fun q e => by cases e; exact p2) ?_
          refine fin _ ?_
          rw [eW, if_neg (fun z => z.elim c29 hdn)]
        · refine SW.bipush (q := 48) (v := (-6)) dX8_way_46 (by decide) rfl ?_
          refine SW.iretR rfl rfl dX8_way_48 ?_
          refine fin _ ?_
          refine (if_pos ?_).symm
          first
          | exact Or.inl c29
          | (refine Or.inr ?_
             cases hd : d (ct_p (ct_L n g wn 64 70 69 u10) i) with
             | none => rfl
             | some dc =>
               rw [hd] at q75
               have := bd _ dc hd
               exact absurd (show (0 : Int32) ≤ u25 75 (ct_p (ct_L n g wn 64 70 69 u10) i) by rw [q75]; exact nI_pos' (by omega)) c43)
    · refine SW.iconst (q := 17) (v := (-1)) dX8_way_16 (by decide) rfl ?_
      refine SW.iretR rfl rfl dX8_way_17 ?_
      first
      | exact ⟨hQ, fun _ => rfl, fun i' j' h' h'' e e' => absurd c13 (g5.mpr ⟨j', h'', e'⟩)⟩
      | exact ⟨hQ, fun _ => rfl, fun i' j' h' h'' e e' => absurd c5 (g4.mpr ⟨i', h', e⟩)⟩
end MWAY
