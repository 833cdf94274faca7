/-! LAKES: all of them in the class; least labels in the reference -/
section GATHER
variable {X : sw_X} {σ : sw_Sg} {x y v w st : Int32} {n p q c s : Nat} {kd lv : Nat → Int32}
/-- what the class's lakes hold -/
def lg_F (n : Nat) (kd lv : Nat → Int32) (u : sw_Sg) : Prop :=
  u 3 3 = nI (lk_n (lk_m n kd lv) (n * n)) ∧ ∀ p, p < n * n → (¬ kd p = 2 → u 49 p = -6) ∧ (kd p = 2 → ∃ j, j < 576 ∧ u 49 p = nI j ∧ u 50 j = nI (lk_n (lk_c n kd lv p) (n * n)))
theorem C_X2_gather (hT : gr_T σ n) (hkd : σ 48 = kd) (hlv : σ 41 = lv) :
    sw_Mv X 3 mX2_gather [.ref (sw_ad X 3), .ref (sw_ad X 1), .ref (sw_ad X 2)] σ (fun u => fr_ [3, 49, 50, 51] σ u ∧ lg_F n kd lv u) := by
  have n24 : n ≤ 24 := hT.2.1
  have h576 := gr_576 n24
  have hpl : σ 1 2 = nI (n * n) := hT.2.2.2.1
  refine sw_ME.ofF (by decide +kernel) rfl (Nat.le_of_ble_eq_true rfl) rfl ?_
  have loop : ∀ (k p : Nat), p + k = n * n → ∀ (τ : sw_Sg), fr_ [3, 49, 50, 51] σ τ → τ 3 3 = nI (lk_n (lk_m n kd lv) p) → (∀ q, q < n * n → (¬ τ 49 q = -6 ↔ ∃ s, s < p ∧ lk_c n kd lv s q)) → (∀ q, q < n * n → ¬ τ 49 q = -6 → ∃ j, j < lk_n (lk_m n kd lv) p ∧ τ 49 q = nI j ∧ τ 50 j = nI (lk_n (lk_c n kd lv q) (n * n))) →
      SW X 3 mX2_gather sw_E0 (sw_Rv (fun u => fr_ [3, 49, 50, 51] σ u ∧ lg_F n kd lv u)) 16 [.ref (sw_ad X 3), .ref (sw_ad X 1), .ref (sw_ad X 2), .int (nI p)] [] τ := by
    intro k
    induction k with
    | zero =>
      intro p hp τ hf h1 h2 h3
      obtain rfl : p = n * n := by omega
      refine SW.iload_n (q := 17) (i := 3) dX2_gather_16 rfl rfl rfl ?_
      refine SW.aload_n (q := 18) (i := 1) dX2_gather_17 rfl rfl rfl ?_
      refine SW.getI (q := 21) (i := 1) fX2_33 rfl rfl dX2_gather_18 rfl ?_
      refine SW.icmp_ge (q := 24) (tgt := 83) dX2_gather_21 (by decide) rfl (fun _ => ?_) (fun c21 => absurd ((by rw [hf 1 (by decide), hpl]; exact Int32.le_refl _)) c21)
      refine SW.vretR rfl dX2_gather_83 ?_
      refine ⟨hf, h1, fun q hq => ⟨fun z => ?_, fun z => ?_⟩⟩
      · refine Classical.byContradiction fun y => ?_
        obtain ⟨s, -, hc⟩ := (h2 q hq).mp y
        exact z (lk_k2 hc).1
      · obtain ⟨j, j1, j2, j3⟩ := h3 q hq ((h2 q hq).mpr ⟨q, hq, lk_rf z⟩)
        have := lk_n_le (P := lk_m n kd lv) (n * n)
        exact ⟨j, by omega, j2, j3⟩
    | succ k ih =>
      intro p hpk τ hf h1 h2 h3
      have hp : p < n * n := by omega
      have e48 : τ 48 = kd := by rw [hf 48 (by decide)]; exact hkd
      have e41 : τ 41 = lv := by rw [hf 41 (by decide)]; exact hlv
      have hT2 : gr_T τ n := hT.fr hf (by decide) (by decide) (by decide)
      have hle := lk_n_le (P := lk_m n kd lv) p
      have same : ¬ lk_m n kd lv p → (∀ q, lk_c n kd lv p q → ∃ s, s < p ∧ lk_c n kd lv s q) → SW X 3 mX2_gather sw_E0 (sw_Rv (fun u => fr_ [3, 49, 50, 51] σ u ∧ lg_F n kd lv u)) 16 [.ref (sw_ad X 3), .ref (sw_ad X 1), .ref (sw_ad X 2), .int (nI (p + 1))] [] τ := by
        intro n1 n2
        refine ih (p + 1) (by omega) τ hf (by rw [lk_n_n n1]; exact h1) (fun q hq => ?_) (fun q hq z => by rw [lk_n_n n1]; exact h3 q hq z)
        rw [h2 q hq]
        constructor
        · rintro ⟨s, s1, s2⟩; exact ⟨s, by omega, s2⟩
        · rintro ⟨s, s1, s2⟩
          by_cases z : s = p
          · subst z; exact n2 q s2
          · exact ⟨s, by omega, s2⟩
      by_cases hk : kd p = 2
      · by_cases hm : τ 49 p = -6
        · have free : ∀ q, lk_c n kd lv p q → τ 49 q = -6 := by
            intro q hq
            refine Classical.byContradiction fun z => ?_
            obtain ⟨s, s1, s2⟩ := (h2 q (lk_lt hp hq)).mp z
            exact (h2 p hp).mpr ⟨s, s1, lk_tr s2 (lk_sym hp hq)⟩ hm
          have hleast : lk_m n kd lv p := by
            refine ⟨hk, fun q hq => ?_⟩
            rcases Nat.lt_or_ge q p with z | z
            · exact absurd hm ((h2 p hp).mpr ⟨q, z, lk_sym hp hq⟩)
            · exact z
          refine SW.iload_n (q := 17) (i := 3) dX2_gather_16 rfl rfl rfl ?_
          refine SW.aload_n (q := 18) (i := 1) dX2_gather_17 rfl rfl rfl ?_
          refine SW.getI (q := 21) (i := 1) fX2_33 rfl rfl dX2_gather_18 rfl ?_
          refine SW.icmp_ge (q := 24) (tgt := 83) dX2_gather_21 (by decide) rfl (fun c21 => absurd c21 ((by rw [hf 1 (by decide), hpl]; exact nI_ge (by omega) (by omega)))) (fun _ => ?_)
          refine SW.aload_n (q := 25) (i := 2) dX2_gather_24 rfl rfl rfl ?_
          refine SW.getR (q := 28) (i := 2) (j := 22) fX2_38 rfl rfl dX2_gather_25 rfl ?_
          refine SW.iload_n (q := 29) (i := 3) dX2_gather_28 rfl rfl rfl ?_
          refine SW.cF (q := 32) (C_X3_atn (i := 22) (j := 48) (n := 576) rfl rfl (k := p) rfl (by omega)) vX2_43 (by decide) rfl rfl rfl rfl (Nat.le_of_ble_eq_true rfl) dX2_gather_29 rfl ?_
          refine SW.iconst (q := 33) (v := 2) dX2_gather_32 (by decide) rfl ?_
          refine SW.icmp_ne (q := 36) (tgt := 77) dX2_gather_33 (by decide) rfl (fun c33 => absurd ((by rw [e48]; exact hk)) c33) (fun _ => ?_)
          refine SW.aload_n (q := 37) (i := 0) dX2_gather_36 rfl rfl rfl ?_
          refine SW.getR (q := 40) (i := 3) (j := 23) fX2_14 rfl rfl dX2_gather_37 rfl ?_
          refine SW.iload_n (q := 41) (i := 3) dX2_gather_40 rfl rfl rfl ?_
          refine SW.cF (q := 44) (C_X3_atn (i := 23) (j := 49) (n := 576) rfl rfl (k := p) rfl (by omega)) vX2_43 (by decide) rfl rfl rfl rfl (Nat.le_of_ble_eq_true rfl) dX2_gather_41 rfl ?_
          refine SW.bipush (q := 46) (v := (-6)) dX2_gather_44 (by decide) rfl ?_
          refine SW.icmp_ne (q := 49) (tgt := 77) dX2_gather_46 (by decide) rfl (fun c46 => absurd (hm) c46) (fun _ => ?_)
          refine SW.aload_n (q := 50) (i := 0) dX2_gather_49 rfl rfl rfl ?_
          refine SW.getR (q := 53) (i := 3) (j := 24) fX2_20 rfl rfl dX2_gather_50 rfl ?_
          refine SW.aload_n (q := 54) (i := 0) dX2_gather_53 rfl rfl rfl ?_
          refine SW.getI (q := 57) (i := 3) fX2_26 rfl rfl dX2_gather_54 rfl ?_
          refine SW.aload_n (q := 58) (i := 0) dX2_gather_57 rfl rfl rfl ?_
          refine SW.aload_n (q := 59) (i := 1) dX2_gather_58 rfl rfl rfl ?_
          refine SW.aload_n (q := 60) (i := 2) dX2_gather_59 rfl rfl rfl ?_
          refine SW.iload_n (q := 61) (i := 3) dX2_gather_60 rfl rfl rfl ?_
          refine SW.cR (q := 64) (C_X2_spread (c := lk_n (lk_m n kd lv) p) hT2 e48 e41 h1 (by omega) hp hk rfl free) vX2_47 (by decide) rfl rfl rfl rfl (Nat.le_of_ble_eq_true rfl) dX2_gather_61 rfl (fun v61 u61 r61 => ?_)
          obtain ⟨g1, g2, rfl⟩ := r61
          refine SW.cG (q := 67) (C_X3_putn (i := 24) (j := 50) (n := 576) rfl rfl (k := lk_n (lk_m n kd lv) p) h1 (by omega)) vX2_51 (by decide) rfl rfl rfl rfl (Nat.le_of_ble_eq_true rfl) dX2_gather_64 rfl ?_
          refine SW.aload_n (q := 68) (i := 0) dX2_gather_67 rfl rfl rfl ?_
          refine SW.dup (q := 69) dX2_gather_68 rfl rfl ?_
          refine SW.getI (q := 72) (i := 3) fX2_26 rfl rfl dX2_gather_69 rfl ?_
          refine SW.iconst (q := 73) (v := 1) dX2_gather_72 (by decide) rfl ?_
          refine SW.iadd (q := 74) dX2_gather_73 rfl ?_
          refine SW.putI (q := 77) (i := 3) pX2_26 rfl rfl dX2_gather_74 rfl ?_
          refine SW.iinc (q := 80) (v := _ + 1) dX2_gather_77 rfl rfl (by decide) rfl ?_
          refine SW.goto (q := 16) dX2_gather_80 (by decide) ?_
          refine SW.eq (by rw [nI_1]; rfl) rfl rfl (ih (p + 1) (by omega) _ (fr_up (fr_up (fr_tr hf g1 (by decide)) (by decide)) (by decide)) ?_ (fun q hq => ?_) (fun q hq z => ?_))
          · rw [sw_i1, sw_un (by decide), g1 3 (by decide), h1, nI_1, lk_n_y hleast]
          · rw [sw_un (by decide), sw_un (by decide)]
            by_cases hc : lk_c n kd lv p q
            · rw [(g2 q).1 hc]
              exact ⟨fun _ => ⟨p, by omega, hc⟩, fun _ => nI_n6 (by omega)⟩
            · rw [(g2 q).2 hc, h2 q hq]
              constructor
              · rintro ⟨s, s1, s2⟩; exact ⟨s, by omega, s2⟩
              · rintro ⟨s, s1, s2⟩
                by_cases y : s = p
                · subst y; exact absurd s2 hc
                · exact ⟨s, by omega, s2⟩
          · rw [sw_un (by decide), sw_un (by decide)] at z ⊢
            rw [lk_n_y hleast, sw_un (by decide)]
            by_cases hc : lk_c n kd lv p q
            · refine ⟨lk_n (lk_m n kd lv) p, by omega, (g2 q).1 hc, ?_⟩
              rw [sw_i1]
              rw [lk_n_c (n * n) (fun r _ => ⟨fun h => lk_tr (lk_sym hp hc) h, fun h => lk_tr hc h⟩)]
            · rw [(g2 q).2 hc] at z ⊢
              obtain ⟨j, j1, j2, j3⟩ := h3 q hq z
              exact ⟨j, by omega, j2, by rw [sw_o1 (by omega), g1 50 (by decide)]; exact j3⟩
        · obtain ⟨s, s1, s2⟩ := (h2 p hp).mp hm
          refine SW.iload_n (q := 17) (i := 3) dX2_gather_16 rfl rfl rfl ?_
          refine SW.aload_n (q := 18) (i := 1) dX2_gather_17 rfl rfl rfl ?_
          refine SW.getI (q := 21) (i := 1) fX2_33 rfl rfl dX2_gather_18 rfl ?_
          refine SW.icmp_ge (q := 24) (tgt := 83) dX2_gather_21 (by decide) rfl (fun c21 => absurd c21 ((by rw [hf 1 (by decide), hpl]; exact nI_ge (by omega) (by omega)))) (fun _ => ?_)
          refine SW.aload_n (q := 25) (i := 2) dX2_gather_24 rfl rfl rfl ?_
          refine SW.getR (q := 28) (i := 2) (j := 22) fX2_38 rfl rfl dX2_gather_25 rfl ?_
          refine SW.iload_n (q := 29) (i := 3) dX2_gather_28 rfl rfl rfl ?_
          refine SW.cF (q := 32) (C_X3_atn (i := 22) (j := 48) (n := 576) rfl rfl (k := p) rfl (by omega)) vX2_43 (by decide) rfl rfl rfl rfl (Nat.le_of_ble_eq_true rfl) dX2_gather_29 rfl ?_
          refine SW.iconst (q := 33) (v := 2) dX2_gather_32 (by decide) rfl ?_
          refine SW.icmp_ne (q := 36) (tgt := 77) dX2_gather_33 (by decide) rfl (fun c33 => absurd ((by rw [e48]; exact hk)) c33) (fun _ => ?_)
          refine SW.aload_n (q := 37) (i := 0) dX2_gather_36 rfl rfl rfl ?_
          refine SW.getR (q := 40) (i := 3) (j := 23) fX2_14 rfl rfl dX2_gather_37 rfl ?_
          refine SW.iload_n (q := 41) (i := 3) dX2_gather_40 rfl rfl rfl ?_
          refine SW.cF (q := 44) (C_X3_atn (i := 23) (j := 49) (n := 576) rfl rfl (k := p) rfl (by omega)) vX2_43 (by decide) rfl rfl rfl rfl (Nat.le_of_ble_eq_true rfl) dX2_gather_41 rfl ?_
          refine SW.bipush (q := 46) (v := (-6)) dX2_gather_44 (by decide) rfl ?_
          refine SW.icmp_ne (q := 49) (tgt := 77) dX2_gather_46 (by decide) rfl (fun _ => ?_) (fun c46 => absurd c46 (hm))
          refine SW.iinc (q := 80) (v := _ + 1) dX2_gather_77 rfl rfl (by decide) rfl ?_
          refine SW.goto (q := 16) dX2_gather_80 (by decide) ?_
          refine SW.eq (by rw [nI_1]; rfl) rfl rfl (same (fun z => ?_) (fun q hq => ⟨s, s1, lk_tr s2 hq⟩))
          have := z.2 s (lk_sym (by omega) s2)
          omega
      · refine SW.iload_n (q := 17) (i := 3) dX2_gather_16 rfl rfl rfl ?_
        refine SW.aload_n (q := 18) (i := 1) dX2_gather_17 rfl rfl rfl ?_
        refine SW.getI (q := 21) (i := 1) fX2_33 rfl rfl dX2_gather_18 rfl ?_
        refine SW.icmp_ge (q := 24) (tgt := 83) dX2_gather_21 (by decide) rfl (fun c21 => absurd c21 ((by rw [hf 1 (by decide), hpl]; exact nI_ge (by omega) (by omega)))) (fun _ => ?_)
        refine SW.aload_n (q := 25) (i := 2) dX2_gather_24 rfl rfl rfl ?_
        refine SW.getR (q := 28) (i := 2) (j := 22) fX2_38 rfl rfl dX2_gather_25 rfl ?_
        refine SW.iload_n (q := 29) (i := 3) dX2_gather_28 rfl rfl rfl ?_
        refine SW.cF (q := 32) (C_X3_atn (i := 22) (j := 48) (n := 576) rfl rfl (k := p) rfl (by omega)) vX2_43 (by decide) rfl rfl rfl rfl (Nat.le_of_ble_eq_true rfl) dX2_gather_29 rfl ?_
        refine SW.iconst (q := 33) (v := 2) dX2_gather_32 (by decide) rfl ?_
        refine SW.icmp_ne (q := 36) (tgt := 77) dX2_gather_33 (by decide) rfl (fun _ => ?_) (fun c33 => absurd c33 ((by rw [e48]; exact hk)))
        refine SW.iinc (q := 80) (v := _ + 1) dX2_gather_77 rfl rfl (by decide) rfl ?_
        refine SW.goto (q := 16) dX2_gather_80 (by decide) ?_
        exact SW.eq (by rw [nI_1]; rfl) rfl rfl (same (fun z => hk z.1) (fun q hq => absurd (lk_k1 hq) hk))
  refine SW.aload_n (q := 1) (i := 0) dX2_gather_0 rfl rfl rfl ?_
  refine SW.iconst (q := 2) (v := 0) dX2_gather_1 (by decide) rfl ?_
  refine SW.putI (q := 5) (i := 3) pX2_26 rfl rfl dX2_gather_2 rfl ?_
  refine SW.aload_n (q := 6) (i := 0) dX2_gather_5 rfl rfl rfl ?_
  refine SW.getR (q := 9) (i := 3) (j := 23) fX2_14 rfl rfl dX2_gather_6 rfl ?_
  refine SW.bipush (q := 11) (v := (-6)) dX2_gather_9 (by decide) rfl ?_
  refine SW.cG (q := 14) (C_X3_fill rfl rfl) vX2_30 (by decide) rfl rfl rfl rfl (Nat.le_of_ble_eq_true rfl) dX2_gather_11 rfl ?_
  refine SW.iconst (q := 15) (v := 0) dX2_gather_14 (by decide) rfl ?_
  refine SW.istore_n (q := 16) (i := 3) dX2_gather_15 rfl (by decide) rfl ?_
  refine loop (n * n) 0 (by omega) _ (fr_tr (fr_up fr_rf (by decide)) (l' := [49]) (fun l hl => sw_row_o (fun e => hl (by rw [e]; decide))) (by decide)) ?_ (fun q hq => ?_) (fun q hq z => ?_)
  · rw [sw_row_o (by decide), sw_i1]; rfl
  · rw [sw_row_i, if_pos (by omega)]
    exact ⟨fun z => absurd rfl z, fun ⟨s, s1, _⟩ => absurd s1 (Nat.not_lt_zero _)⟩
  · rw [sw_row_i, if_pos (by omega)] at z
    exact absurd rfl z
theorem C_X2_placesAt (hF : lg_F n kd lv σ) (n24 : n ≤ 24) (hx : x = nI p) (hp : p < n * n) : sw_F X 1 mX2_placesAt [.ref (sw_ad X 3), .int x] σ (nI (lk_n (lk_c n kd lv p) (n * n))) σ := by
  subst hx
  have h576 := gr_576 n24
  refine sw_ME.ofF (by decide +kernel) rfl (Nat.le_of_ble_eq_true rfl) rfl ?_
  by_cases hk : kd p = 2
  · obtain ⟨j, j1, j2, j3⟩ := (hF.2 p hp).2 hk
    refine SW.aload_n (q := 1) (i := 0) dX2_placesAt_0 rfl rfl rfl ?_
    refine SW.getR (q := 4) (i := 3) (j := 23) fX2_14 rfl rfl dX2_placesAt_1 rfl ?_
    refine SW.iload_n (q := 5) (i := 1) dX2_placesAt_4 rfl rfl rfl ?_
    refine SW.cF (q := 8) (C_X3_atn (i := 23) (j := 49) (n := 576) rfl rfl (k := p) rfl (by omega)) vX2_43 (by decide) rfl rfl rfl rfl (Nat.le_of_ble_eq_true rfl) dX2_placesAt_5 rfl ?_
    refine SW.bipush (q := 10) (v := (-6)) dX2_placesAt_8 (by decide) rfl ?_
    refine SW.icmp_ne (q := 13) (tgt := 17) dX2_placesAt_10 (by decide) rfl (fun _ => ?_) (fun c10 => absurd c10 ((by rw [j2]; exact nI_n6 (by omega))))
    refine SW.aload_n (q := 18) (i := 0) dX2_placesAt_17 rfl rfl rfl ?_
    refine SW.getR (q := 21) (i := 3) (j := 24) fX2_20 rfl rfl dX2_placesAt_18 rfl ?_
    refine SW.aload_n (q := 22) (i := 0) dX2_placesAt_21 rfl rfl rfl ?_
    refine SW.getR (q := 25) (i := 3) (j := 23) fX2_14 rfl rfl dX2_placesAt_22 rfl ?_
    refine SW.iload_n (q := 26) (i := 1) dX2_placesAt_25 rfl rfl rfl ?_
    refine SW.cF (q := 29) (C_X3_atn (i := 23) (j := 49) (n := 576) rfl rfl (k := p) rfl (by omega)) vX2_43 (by decide) rfl rfl rfl rfl (Nat.le_of_ble_eq_true rfl) dX2_placesAt_26 rfl ?_
    refine SW.cF (q := 32) (C_X3_atn (i := 24) (j := 50) (n := 576) rfl rfl (k := j) j2 j1) vX2_43 (by decide) rfl rfl rfl rfl (Nat.le_of_ble_eq_true rfl) dX2_placesAt_29 rfl ?_
    refine SW.iretR rfl rfl dX2_placesAt_32 ?_
    exact ⟨j3, rfl⟩
  · refine SW.aload_n (q := 1) (i := 0) dX2_placesAt_0 rfl rfl rfl ?_
    refine SW.getR (q := 4) (i := 3) (j := 23) fX2_14 rfl rfl dX2_placesAt_1 rfl ?_
    refine SW.iload_n (q := 5) (i := 1) dX2_placesAt_4 rfl rfl rfl ?_
    refine SW.cF (q := 8) (C_X3_atn (i := 23) (j := 49) (n := 576) rfl rfl (k := p) rfl (by omega)) vX2_43 (by decide) rfl rfl rfl rfl (Nat.le_of_ble_eq_true rfl) dX2_placesAt_5 rfl ?_
    refine SW.bipush (q := 10) (v := (-6)) dX2_placesAt_8 (by decide) rfl ?_
    refine SW.icmp_ne (q := 13) (tgt := 17) dX2_placesAt_10 (by decide) rfl (fun c10 => absurd (((hF.2 p hp).1 hk)) c10) (fun _ => ?_)
    refine SW.iconst (q := 14) (v := 0) dX2_placesAt_13 (by decide) rfl ?_
    refine SW.goto (q := 32) dX2_placesAt_14 (by decide) ?_
    refine SW.iretR rfl rfl dX2_placesAt_32 ?_
    exact ⟨by rw [lk_n_0 (fun q hq => hk (lk_k1 hq))]; rfl, rfl⟩
/-- the reference's labels, on the way -/
def lm_ (n : Nat) (kd lv : Nat → Int32) (m : Nat → Nat) (τ : sw_Sg) : Prop := ∀ p, p < n * n → (¬ kd p = 2 → τ 77 p = -6) ∧ (kd p = 2 → τ 77 p = nI (m p) ∧ lk_c n kd lv p (m p) ∧ m p ≤ p)
def lm_F (n : Nat) (kd lv : Nat → Int32) (m : Nat → Nat) (τ : sw_Sg) : Prop := ∀ p, p < n * n → (¬ kd p = 2 → τ 77 p = -6) ∧ (kd p = 2 → τ 77 p = nI (m p) ∧ lk_c n kd lv p (m p) ∧ ∀ q, lk_c n kd lv p q → m p ≤ q)
def lm_s (m : Nat → Nat) : Nat → Nat
  | 0 => 0
  | k + 1 => lm_s m k + m k
theorem lm_s_c {m m' : Nat → Nat} : ∀ k, (∀ q, q < k → m q = m' q) → lm_s m k = lm_s m' k := by
  intro k
  induction k with
  | zero => intro _; rfl
  | succ k ih => intro h; rw [lm_s, lm_s, ih (fun q hq => h q (by omega)), h k (by omega)]
theorem lm_s_up {m : Nat → Nat} {a v : Nat} (hv : v < m a) : ∀ k, a < k → lm_s (va_up m a v) k < lm_s m k := by
  intro k
  induction k with
  | zero => intro h; omega
  | succ k ih =>
    intro hk
    rw [lm_s, lm_s]
    by_cases z : a = k
    · subst z
      rw [up_i, lm_s_c (m := va_up m a v) (m' := m) a (fun q hq => up_o (by omega))]
      omega
    · rw [up_o (Ne.symm z)]
      have := ih (by omega)
      omega
def lm_ck (n : Nat) (kd lv : Nat → Int32) (m : Nat → Nat) (p e : Nat) : Prop := ∀ q, gr_nb n p e = some q → lk_l n kd lv p q → m p ≤ m q
theorem C_X8_layMarks (hM : gr_M σ n) (hkd : σ 70 = kd) (hlv : σ 65 = lv) :
    sw_Mv X 2 mX8_layMarks [.ref (sw_ad X 59)] σ (fun u => fr_ [77] σ u ∧ ∃ m, lm_F n kd lv m u) := by
  have n24 : n ≤ 24 := hM.2.1
  have h576 := gr_576 n24
  have en : σ 59 1 = nI n := hM.2.2
  refine sw_ME.ofF (by decide +kernel) rfl (Nat.le_of_ble_eq_true rfl) rfl ?_
  have fin : ∀ m τ, lm_ n kd lv m τ → (∀ p e, p < n * n → e < 4 → lm_ck n kd lv m p e) → lm_F n kd lv m τ := by
    intro m τ h1 h2 p hp
    refine ⟨(h1 p hp).1, fun hk => ?_⟩
    obtain ⟨a1, a2, a3⟩ := (h1 p hp).2 hk
    refine ⟨a1, a2, fun q hq => ?_⟩
    have hle : m p ≤ m q := lk_ind (S := fun q => m p ≤ m q) (fun _ => Nat.le_refl _) (fun u q c hu hl => by
      obtain ⟨e, e4, ea⟩ := hl.1
      have := h2 u e (lk_lt hp c) e4 q ea hl
      omega) hq
    have := ((h1 q (lk_lt hp hq)).2 (lk_k2 hq).1).2.2
    omega
  -- one look at all places
  have pass : ∀ (m0 : Nat → Nat) (S : Nat), S = lm_s m0 (n * n) →
      (∀ m τ, fr_ [77] σ τ → lm_ n kd lv m τ → lm_s m (n * n) < S → ∀ B C D, SW X 2 mX8_layMarks sw_E0 (sw_Rv (fun u => fr_ [77] σ u ∧ ∃ m, lm_F n kd lv m u)) 45 [.ref (sw_ad X 59), .int 1, B, C, D] [] τ) →
      ∀ (k p : Nat), p + k = n * n → ∀ (b : Bool) (m : Nat → Nat) (τ : sw_Sg), fr_ [77] σ τ → lm_ n kd lv m τ → (b = true → lm_s m (n * n) < S) → (b = false → m = m0 ∧ ∀ p' e, p' < p → e < 4 → lm_ck n kd lv m p' e) → ∀ C D,
      SW X 2 mX8_layMarks sw_E0 (sw_Rv (fun u => fr_ [77] σ u ∧ ∃ m, lm_F n kd lv m u)) 53 [.ref (sw_ad X 59), .int (sw_b b), .int (nI p), C, D] [] τ := by
    intro m0 S hS next k
    induction k with
    | zero =>
      intro p hp b m τ hf hm hb1 hb0 C D
      obtain rfl : p = n * n := by omega
      cases b with
      | true =>
        refine SW.iload_n (q := 54) (i := 2) dX8_layMarks_53 rfl rfl rfl ?_
        refine SW.aload_n (q := 55) (i := 0) dX8_layMarks_54 rfl rfl rfl ?_
        refine SW.getI (q := 58) (i := 59) fX8_7 rfl rfl dX8_layMarks_55 rfl ?_
        refine SW.aload_n (q := 59) (i := 0) dX8_layMarks_58 rfl rfl rfl ?_
        refine SW.getI (q := 62) (i := 59) fX8_7 rfl rfl dX8_layMarks_59 rfl ?_
        refine SW.imul (q := 63) dX8_layMarks_62 rfl ?_
        refine SW.icmp_ge (q := 66) (tgt := 164) dX8_layMarks_63 (by decide) rfl (fun _ => ?_) (fun c63 => absurd ((by rw [hf 59 (by decide), en, pk_mul]; exact Int32.le_refl _)) c63)
        refine SW.goto (q := 45) dX8_layMarks_164 (by decide) ?_
        exact next m τ hf hm (hb1 rfl) _ _ _
      | false =>
        obtain ⟨-, ck⟩ := hb0 rfl
        refine SW.iload_n (q := 54) (i := 2) dX8_layMarks_53 rfl rfl rfl ?_
        refine SW.aload_n (q := 55) (i := 0) dX8_layMarks_54 rfl rfl rfl ?_
        refine SW.getI (q := 58) (i := 59) fX8_7 rfl rfl dX8_layMarks_55 rfl ?_
        refine SW.aload_n (q := 59) (i := 0) dX8_layMarks_58 rfl rfl rfl ?_
        refine SW.getI (q := 62) (i := 59) fX8_7 rfl rfl dX8_layMarks_59 rfl ?_
        refine SW.imul (q := 63) dX8_layMarks_62 rfl ?_
        refine SW.icmp_ge (q := 66) (tgt := 164) dX8_layMarks_63 (by decide) rfl (fun _ => ?_) (fun c63 => absurd ((by rw [hf 59 (by decide), en, pk_mul]; exact Int32.le_refl _)) c63)
        refine SW.goto (q := 45) dX8_layMarks_164 (by decide) ?_
        refine SW.iload_n (q := 46) (i := 1) dX8_layMarks_45 rfl rfl rfl ?_
        refine SW.if_eq (q := 49) (tgt := 167) dX8_layMarks_46 (by decide) rfl (fun _ => ?_) (fun c46 => absurd (rfl) c46)
        refine SW.vretR rfl dX8_layMarks_167 ?_
        exact ⟨hf, m, fin m τ hm ck⟩
    | succ k ih =>
      intro p hpk b m τ hf hm hb1 hb0 C D
      have hp : p < n * n := by omega
      have edges : ∀ (k2 e : Nat), e + k2 = 4 → ∀ (b : Bool) (m : Nat → Nat) (τ : sw_Sg), fr_ [77] σ τ → lm_ n kd lv m τ → (b = true → lm_s m (n * n) < S) → (b = false → m = m0 ∧ (∀ p' e, p' < p → e < 4 → lm_ck n kd lv m p' e) ∧ ∀ e', e' < e → lm_ck n kd lv m p e') → ∀ D,
          SW X 2 mX8_layMarks sw_E0 (sw_Rv (fun u => fr_ [77] σ u ∧ ∃ m, lm_F n kd lv m u)) 68 [.ref (sw_ad X 59), .int (sw_b b), .int (nI p), .int (nI e), D] [] τ := by
        intro k2
        induction k2 with
        | zero =>
          intro e he b m τ hf hm hb1 hb0 D
          obtain rfl : e = 4 := by omega
          refine SW.iload_n (q := 69) (i := 3) dX8_layMarks_68 rfl rfl rfl ?_
          refine SW.iconst (q := 70) (v := 4) dX8_layMarks_69 (by decide) rfl ?_
          refine SW.icmp_ge (q := 73) (tgt := 158) dX8_layMarks_70 (by decide) rfl (fun _ => ?_) (fun c70 => absurd ((by decide)) c70)
          refine SW.iinc (q := 161) (v := _ + 1) dX8_layMarks_158 rfl rfl (by decide) rfl ?_
          refine SW.goto (q := 53) dX8_layMarks_161 (by decide) ?_
          refine SW.eq (by rw [nI_1]; rfl) rfl rfl (ih (p + 1) (by omega) b m τ hf hm hb1 (fun z => ⟨(hb0 z).1, fun p' e hp' he => ?_⟩) _ _)
          by_cases y : p' = p
          · subst y; exact (hb0 z).2.2 e he
          · exact (hb0 z).2.1 p' e (by omega) he
        | succ k2 ih2 =>
          intro e he b m τ hf hm hb1 hb0 D
          have e77 := hm p hp
          have e65 : τ 65 = lv := by rw [hf 65 (by decide)]; exact hlv
          have hM2 : gr_M τ n := hM.fr hf (by decide)
          have skip : lm_ck n kd lv m p e → ∀ D, SW X 2 mX8_layMarks sw_E0 (sw_Rv (fun u => fr_ [77] σ u ∧ ∃ m, lm_F n kd lv m u)) 68 [.ref (sw_ad X 59), .int (sw_b b), .int (nI p), .int (nI (e + 1)), D] [] τ := by
            intro hc D
            refine ih2 (e + 1) (by omega) b m τ hf hm hb1 (fun z => ⟨(hb0 z).1, (hb0 z).2.1, fun e' he' => ?_⟩) D
            by_cases y : e' = e
            · subst y; exact hc
            · exact (hb0 z).2.2 e' (by omega)
          by_cases hk : kd p = 2
          · obtain ⟨m1, m2, m3⟩ := e77.2 hk
            cases hnb : gr_nb n p e with
            | none =>
              refine SW.iload_n (q := 69) (i := 3) dX8_layMarks_68 rfl rfl rfl ?_
              refine SW.iconst (q := 70) (v := 4) dX8_layMarks_69 (by decide) rfl ?_
              refine SW.icmp_ge (q := 73) (tgt := 158) dX8_layMarks_70 (by decide) rfl (fun c70 => absurd c70 ((nI_ge (a := e) (b := 4) (by omega) (by omega)))) (fun _ => ?_)
              refine SW.aload_n (q := 74) (i := 0) dX8_layMarks_73 rfl rfl rfl ?_
              refine SW.getR (q := 77) (i := 59) (j := 77) fX8_66 rfl rfl dX8_layMarks_74 rfl ?_
              refine SW.iload_n (q := 78) (i := 2) dX8_layMarks_77 rfl rfl rfl ?_
              refine SW.ialdN (q := 79) (k := p) rfl (rfl) (by omega) (by decide) dX8_layMarks_78 rfl ?_
              refine SW.if_lt (q := 82) (tgt := 158) dX8_layMarks_79 (by decide) rfl (fun c79 => absurd c79 ((by rw [m1]; exact nI_pos (by omega)))) (fun _ => ?_)
              refine SW.aload_n (q := 83) (i := 0) dX8_layMarks_82 rfl rfl rfl ?_
              refine SW.iload_n (q := 84) (i := 2) dX8_layMarks_83 rfl rfl rfl ?_
              refine SW.iload_n (q := 85) (i := 3) dX8_layMarks_84 rfl rfl rfl ?_
              refine SW.cF (q := 88) (C_X8_beside hM2 rfl rfl hp (by omega)) vX8_114 (by decide) rfl rfl rfl rfl (Nat.le_of_ble_eq_true rfl) dX8_layMarks_85 rfl ?_
              rw [hnb]
              refine SW.istore (q := 90) (i := 4) dX8_layMarks_88 (by decide) rfl ?_
              refine SW.iload (q := 92) (i := 4) dX8_layMarks_90 rfl rfl ?_
              refine SW.if_lt (q := 95) (tgt := 152) dX8_layMarks_92 (by decide) rfl (fun _ => ?_) (fun c92 => absurd ((by decide)) c92)
              refine SW.iinc (q := 155) (v := _ + 1) dX8_layMarks_152 rfl rfl (by decide) rfl ?_
              refine SW.goto (q := 68) dX8_layMarks_155 (by decide) ?_
              exact SW.eq (by rw [nI_1]; rfl) rfl rfl (skip (fun q z => by rw [hnb] at z; cases z) _)
            | some v0 =>
              have vP := (gr_nb_lt hp hnb).1
              have vi : gr_v (some v0) = nI v0 := rfl
              by_cases hkv : kd v0 = 2
              · obtain ⟨w1, w2, w3⟩ := (hm v0 vP).2 hkv
                by_cases hl : lv v0 = lv p
                · have hlk : lk_l n kd lv p v0 := ⟨⟨e, by omega, hnb⟩, hk, hkv, hl.symm⟩
                  by_cases hlt : m v0 < m p
                  · refine SW.iload_n (q := 69) (i := 3) dX8_layMarks_68 rfl rfl rfl ?_
                    refine SW.iconst (q := 70) (v := 4) dX8_layMarks_69 (by decide) rfl ?_
                    refine SW.icmp_ge (q := 73) (tgt := 158) dX8_layMarks_70 (by decide) rfl (fun c70 => absurd c70 ((nI_ge (a := e) (b := 4) (by omega) (by omega)))) (fun _ => ?_)
                    refine SW.aload_n (q := 74) (i := 0) dX8_layMarks_73 rfl rfl rfl ?_
                    refine SW.getR (q := 77) (i := 59) (j := 77) fX8_66 rfl rfl dX8_layMarks_74 rfl ?_
                    refine SW.iload_n (q := 78) (i := 2) dX8_layMarks_77 rfl rfl rfl ?_
                    refine SW.ialdN (q := 79) (k := p) rfl (rfl) (by omega) (by decide) dX8_layMarks_78 rfl ?_
                    refine SW.if_lt (q := 82) (tgt := 158) dX8_layMarks_79 (by decide) rfl (fun c79 => absurd c79 ((by rw [m1]; exact nI_pos (by omega)))) (fun _ => ?_)
                    refine SW.aload_n (q := 83) (i := 0) dX8_layMarks_82 rfl rfl rfl ?_
                    refine SW.iload_n (q := 84) (i := 2) dX8_layMarks_83 rfl rfl rfl ?_
                    refine SW.iload_n (q := 85) (i := 3) dX8_layMarks_84 rfl rfl rfl ?_
                    refine SW.cF (q := 88) (C_X8_beside hM2 rfl rfl hp (by omega)) vX8_114 (by decide) rfl rfl rfl rfl (Nat.le_of_ble_eq_true rfl) dX8_layMarks_85 rfl ?_
                    rw [hnb, vi]
                    refine SW.istore (q := 90) (i := 4) dX8_layMarks_88 (by decide) rfl ?_
                    refine SW.iload (q := 92) (i := 4) dX8_layMarks_90 rfl rfl ?_
                    refine SW.if_lt (q := 95) (tgt := 152) dX8_layMarks_92 (by decide) rfl (fun c92 => absurd c92 ((nI_pos (by omega)))) (fun _ => ?_)
                    refine SW.aload_n (q := 96) (i := 0) dX8_layMarks_95 rfl rfl rfl ?_
                    refine SW.getR (q := 99) (i := 59) (j := 77) fX8_66 rfl rfl dX8_layMarks_96 rfl ?_
                    refine SW.iload (q := 101) (i := 4) dX8_layMarks_99 rfl rfl ?_
                    refine SW.ialdN (q := 102) (k := v0) rfl (rfl) (by omega) (by decide) dX8_layMarks_101 rfl ?_
                    refine SW.if_lt (q := 105) (tgt := 152) dX8_layMarks_102 (by decide) rfl (fun c102 => absurd c102 ((by rw [w1]; exact nI_pos (by omega)))) (fun _ => ?_)
                    refine SW.aload_n (q := 106) (i := 0) dX8_layMarks_105 rfl rfl rfl ?_
                    refine SW.getR (q := 109) (i := 59) (j := 65) fX8_29 rfl rfl dX8_layMarks_106 rfl ?_
                    refine SW.iload (q := 111) (i := 4) dX8_layMarks_109 rfl rfl ?_
                    refine SW.ialdN (q := 112) (k := v0) rfl (rfl) (by omega) (by decide) dX8_layMarks_111 rfl ?_
                    refine SW.aload_n (q := 113) (i := 0) dX8_layMarks_112 rfl rfl rfl ?_
                    refine SW.getR (q := 116) (i := 59) (j := 65) fX8_29 rfl rfl dX8_layMarks_113 rfl ?_
                    refine SW.iload_n (q := 117) (i := 2) dX8_layMarks_116 rfl rfl rfl ?_
                    refine SW.ialdN (q := 118) (k := p) rfl (rfl) (by omega) (by decide) dX8_layMarks_117 rfl ?_
                    refine SW.icmp_ne (q := 121) (tgt := 152) dX8_layMarks_118 (by decide) rfl (fun c118 => absurd ((by rw [e65]; exact hl)) c118) (fun _ => ?_)
                    refine SW.aload_n (q := 122) (i := 0) dX8_layMarks_121 rfl rfl rfl ?_
                    refine SW.getR (q := 125) (i := 59) (j := 77) fX8_66 rfl rfl dX8_layMarks_122 rfl ?_
                    refine SW.iload (q := 127) (i := 4) dX8_layMarks_125 rfl rfl ?_
                    refine SW.ialdN (q := 128) (k := v0) rfl (rfl) (by omega) (by decide) dX8_layMarks_127 rfl ?_
                    refine SW.aload_n (q := 129) (i := 0) dX8_layMarks_128 rfl rfl rfl ?_
                    refine SW.getR (q := 132) (i := 59) (j := 77) fX8_66 rfl rfl dX8_layMarks_129 rfl ?_
                    refine SW.iload_n (q := 133) (i := 2) dX8_layMarks_132 rfl rfl rfl ?_
                    refine SW.ialdN (q := 134) (k := p) rfl (rfl) (by omega) (by decide) dX8_layMarks_133 rfl ?_
                    refine SW.icmp_ge (q := 137) (tgt := 152) dX8_layMarks_134 (by decide) rfl (fun c134 => absurd c134 ((by rw [w1, m1]; exact nI_ge hlt (by omega)))) (fun _ => ?_)
                    refine SW.aload_n (q := 138) (i := 0) dX8_layMarks_137 rfl rfl rfl ?_
                    refine SW.getR (q := 141) (i := 59) (j := 77) fX8_66 rfl rfl dX8_layMarks_138 rfl ?_
                    refine SW.iload_n (q := 142) (i := 2) dX8_layMarks_141 rfl rfl rfl ?_
                    refine SW.aload_n (q := 143) (i := 0) dX8_layMarks_142 rfl rfl rfl ?_
                    refine SW.getR (q := 146) (i := 59) (j := 77) fX8_66 rfl rfl dX8_layMarks_143 rfl ?_
                    refine SW.iload (q := 148) (i := 4) dX8_layMarks_146 rfl rfl ?_
                    refine SW.ialdN (q := 149) (k := v0) rfl (rfl) (by omega) (by decide) dX8_layMarks_148 rfl ?_
                    refine SW.iastN (q := 150) (k := p) rfl (rfl) (by omega) (by decide) dX8_layMarks_149 rfl ?_
                    refine SW.iconst (q := 151) (v := 1) dX8_layMarks_150 (by decide) rfl ?_
                    refine SW.istore_n (q := 152) (i := 1) dX8_layMarks_151 rfl (by decide) rfl ?_
                    refine SW.iinc (q := 155) (v := _ + 1) dX8_layMarks_152 rfl rfl (by decide) rfl ?_
                    refine SW.goto (q := 68) dX8_layMarks_155 (by decide) ?_
                    refine SW.eq (by rw [nI_1]; rfl) rfl rfl (ih2 (e + 1) (by omega) true (va_up m p (m v0)) _ (fr_up hf (by decide)) (fun q hq => ?_) (fun _ => ?_) (fun z => by cases z) _)
                    · by_cases z : q = p
                      · subst z
                        rw [sw_i1, up_i]
                        exact ⟨fun y => absurd hk y, fun _ => ⟨w1, lk_tr (lk_go (lk_rf hk) hlk) w2, by omega⟩⟩
                      · rw [sw_o1 z, up_o z]; exact hm q hq
                    · have := lm_s_up (m := m) hlt (n * n) hp
                      cases b with
                      | true => have := hb1 rfl; omega
                      | false => rw [(hb0 rfl).1] at this ⊢; omega
                  · refine SW.iload_n (q := 69) (i := 3) dX8_layMarks_68 rfl rfl rfl ?_
                    refine SW.iconst (q := 70) (v := 4) dX8_layMarks_69 (by decide) rfl ?_
                    refine SW.icmp_ge (q := 73) (tgt := 158) dX8_layMarks_70 (by decide) rfl (fun c70 => absurd c70 ((nI_ge (a := e) (b := 4) (by omega) (by omega)))) (fun _ => ?_)
                    refine SW.aload_n (q := 74) (i := 0) dX8_layMarks_73 rfl rfl rfl ?_
                    refine SW.getR (q := 77) (i := 59) (j := 77) fX8_66 rfl rfl dX8_layMarks_74 rfl ?_
                    refine SW.iload_n (q := 78) (i := 2) dX8_layMarks_77 rfl rfl rfl ?_
                    refine SW.ialdN (q := 79) (k := p) rfl (rfl) (by omega) (by decide) dX8_layMarks_78 rfl ?_
                    refine SW.if_lt (q := 82) (tgt := 158) dX8_layMarks_79 (by decide) rfl (fun c79 => absurd c79 ((by rw [m1]; exact nI_pos (by omega)))) (fun _ => ?_)
                    refine SW.aload_n (q := 83) (i := 0) dX8_layMarks_82 rfl rfl rfl ?_
                    refine SW.iload_n (q := 84) (i := 2) dX8_layMarks_83 rfl rfl rfl ?_
                    refine SW.iload_n (q := 85) (i := 3) dX8_layMarks_84 rfl rfl rfl ?_
                    refine SW.cF (q := 88) (C_X8_beside hM2 rfl rfl hp (by omega)) vX8_114 (by decide) rfl rfl rfl rfl (Nat.le_of_ble_eq_true rfl) dX8_layMarks_85 rfl ?_
                    rw [hnb, vi]
                    refine SW.istore (q := 90) (i := 4) dX8_layMarks_88 (by decide) rfl ?_
                    refine SW.iload (q := 92) (i := 4) dX8_layMarks_90 rfl rfl ?_
                    refine SW.if_lt (q := 95) (tgt := 152) dX8_layMarks_92 (by decide) rfl (fun c92 => absurd c92 ((nI_pos (by omega)))) (fun _ => ?_)
                    refine SW.aload_n (q := 96) (i := 0) dX8_layMarks_95 rfl rfl rfl ?_
                    refine SW.getR (q := 99) (i := 59) (j := 77) fX8_66 rfl rfl dX8_layMarks_96 rfl ?_
                    refine SW.iload (q := 101) (i := 4) dX8_layMarks_99 rfl rfl ?_
                    refine SW.ialdN (q := 102) (k := v0) rfl (rfl) (by omega) (by decide) dX8_layMarks_101 rfl ?_
                    refine SW.if_lt (q := 105) (tgt := 152) dX8_layMarks_102 (by decide) rfl (fun c102 => absurd c102 ((by rw [w1]; exact nI_pos (by omega)))) (fun _ => ?_)
                    refine SW.aload_n (q := 106) (i := 0) dX8_layMarks_105 rfl rfl rfl ?_
                    refine SW.getR (q := 109) (i := 59) (j := 65) fX8_29 rfl rfl dX8_layMarks_106 rfl ?_
                    refine SW.iload (q := 111) (i := 4) dX8_layMarks_109 rfl rfl ?_
                    refine SW.ialdN (q := 112) (k := v0) rfl (rfl) (by omega) (by decide) dX8_layMarks_111 rfl ?_
                    refine SW.aload_n (q := 113) (i := 0) dX8_layMarks_112 rfl rfl rfl ?_
                    refine SW.getR (q := 116) (i := 59) (j := 65) fX8_29 rfl rfl dX8_layMarks_113 rfl ?_
                    refine SW.iload_n (q := 117) (i := 2) dX8_layMarks_116 rfl rfl rfl ?_
                    refine SW.ialdN (q := 118) (k := p) rfl (rfl) (by omega) (by decide) dX8_layMarks_117 rfl ?_
                    refine SW.icmp_ne (q := 121) (tgt := 152) dX8_layMarks_118 (by decide) rfl (fun c118 => absurd ((by rw [e65]; exact hl)) c118) (fun _ => ?_)
                    refine SW.aload_n (q := 122) (i := 0) dX8_layMarks_121 rfl rfl rfl ?_
                    refine SW.getR (q := 125) (i := 59) (j := 77) fX8_66 rfl rfl dX8_layMarks_122 rfl ?_
                    refine SW.iload (q := 127) (i := 4) dX8_layMarks_125 rfl rfl ?_
                    refine SW.ialdN (q := 128) (k := v0) rfl (rfl) (by omega) (by decide) dX8_layMarks_127 rfl ?_
                    refine SW.aload_n (q := 129) (i := 0) dX8_layMarks_128 rfl rfl rfl ?_
                    refine SW.getR (q := 132) (i := 59) (j := 77) fX8_66 rfl rfl dX8_layMarks_129 rfl ?_
                    refine SW.iload_n (q := 133) (i := 2) dX8_layMarks_132 rfl rfl rfl ?_
                    refine SW.ialdN (q := 134) (k := p) rfl (rfl) (by omega) (by decide) dX8_layMarks_133 rfl ?_
                    refine SW.icmp_ge (q := 137) (tgt := 152) dX8_layMarks_134 (by decide) rfl (fun _ => ?_) (fun c134 => absurd ((by rw [w1, m1]; exact nI_le (by omega) (by omega))) c134)
                    refine SW.iinc (q := 155) (v := _ + 1) dX8_layMarks_152 rfl rfl (by decide) rfl ?_
                    refine SW.goto (q := 68) dX8_layMarks_155 (by decide) ?_
                    exact SW.eq (by rw [nI_1]; rfl) rfl rfl (skip (fun q z _ => by rw [hnb] at z; cases z; omega) _)
                · refine SW.iload_n (q := 69) (i := 3) dX8_layMarks_68 rfl rfl rfl ?_
                  refine SW.iconst (q := 70) (v := 4) dX8_layMarks_69 (by decide) rfl ?_
                  refine SW.icmp_ge (q := 73) (tgt := 158) dX8_layMarks_70 (by decide) rfl (fun c70 => absurd c70 ((nI_ge (a := e) (b := 4) (by omega) (by omega)))) (fun _ => ?_)
                  refine SW.aload_n (q := 74) (i := 0) dX8_layMarks_73 rfl rfl rfl ?_
                  refine SW.getR (q := 77) (i := 59) (j := 77) fX8_66 rfl rfl dX8_layMarks_74 rfl ?_
                  refine SW.iload_n (q := 78) (i := 2) dX8_layMarks_77 rfl rfl rfl ?_
                  refine SW.ialdN (q := 79) (k := p) rfl (rfl) (by omega) (by decide) dX8_layMarks_78 rfl ?_
                  refine SW.if_lt (q := 82) (tgt := 158) dX8_layMarks_79 (by decide) rfl (fun c79 => absurd c79 ((by rw [m1]; exact nI_pos (by omega)))) (fun _ => ?_)
                  refine SW.aload_n (q := 83) (i := 0) dX8_layMarks_82 rfl rfl rfl ?_
                  refine SW.iload_n (q := 84) (i := 2) dX8_layMarks_83 rfl rfl rfl ?_
                  refine SW.iload_n (q := 85) (i := 3) dX8_layMarks_84 rfl rfl rfl ?_
                  refine SW.cF (q := 88) (C_X8_beside hM2 rfl rfl hp (by omega)) vX8_114 (by decide) rfl rfl rfl rfl (Nat.le_of_ble_eq_true rfl) dX8_layMarks_85 rfl ?_
                  rw [hnb, vi]
                  refine SW.istore (q := 90) (i := 4) dX8_layMarks_88 (by decide) rfl ?_
                  refine SW.iload (q := 92) (i := 4) dX8_layMarks_90 rfl rfl ?_
                  refine SW.if_lt (q := 95) (tgt := 152) dX8_layMarks_92 (by decide) rfl (fun c92 => absurd c92 ((nI_pos (by omega)))) (fun _ => ?_)
                  refine SW.aload_n (q := 96) (i := 0) dX8_layMarks_95 rfl rfl rfl ?_
                  refine SW.getR (q := 99) (i := 59) (j := 77) fX8_66 rfl rfl dX8_layMarks_96 rfl ?_
                  refine SW.iload (q := 101) (i := 4) dX8_layMarks_99 rfl rfl ?_
                  refine SW.ialdN (q := 102) (k := v0) rfl (rfl) (by omega) (by decide) dX8_layMarks_101 rfl ?_
                  refine SW.if_lt (q := 105) (tgt := 152) dX8_layMarks_102 (by decide) rfl (fun c102 => absurd c102 ((by rw [w1]; exact nI_pos (by omega)))) (fun _ => ?_)
                  refine SW.aload_n (q := 106) (i := 0) dX8_layMarks_105 rfl rfl rfl ?_
                  refine SW.getR (q := 109) (i := 59) (j := 65) fX8_29 rfl rfl dX8_layMarks_106 rfl ?_
                  refine SW.iload (q := 111) (i := 4) dX8_layMarks_109 rfl rfl ?_
                  refine SW.ialdN (q := 112) (k := v0) rfl (rfl) (by omega) (by decide) dX8_layMarks_111 rfl ?_
                  refine SW.aload_n (q := 113) (i := 0) dX8_layMarks_112 rfl rfl rfl ?_
                  refine SW.getR (q := 116) (i := 59) (j := 65) fX8_29 rfl rfl dX8_layMarks_113 rfl ?_
                  refine SW.iload_n (q := 117) (i := 2) dX8_layMarks_116 rfl rfl rfl ?_
                  refine SW.ialdN (q := 118) (k := p) rfl (rfl) (by omega) (by decide) dX8_layMarks_117 rfl ?_
                  refine SW.icmp_ne (q := 121) (tgt := 152) dX8_layMarks_118 (by decide) rfl (fun _ => ?_) (fun c118 => absurd c118 ((by rw [e65]; exact hl)))
                  refine SW.iinc (q := 155) (v := _ + 1) dX8_layMarks_152 rfl rfl (by decide) rfl ?_
                  refine SW.goto (q := 68) dX8_layMarks_155 (by decide) ?_
                  exact SW.eq (by rw [nI_1]; rfl) rfl rfl (skip (fun q z w => by rw [hnb] at z; cases z; exact absurd w.2.2.2.symm hl) _)
              · refine SW.iload_n (q := 69) (i := 3) dX8_layMarks_68 rfl rfl rfl ?_
                refine SW.iconst (q := 70) (v := 4) dX8_layMarks_69 (by decide) rfl ?_
                refine SW.icmp_ge (q := 73) (tgt := 158) dX8_layMarks_70 (by decide) rfl (fun c70 => absurd c70 ((nI_ge (a := e) (b := 4) (by omega) (by omega)))) (fun _ => ?_)
                refine SW.aload_n (q := 74) (i := 0) dX8_layMarks_73 rfl rfl rfl ?_
                refine SW.getR (q := 77) (i := 59) (j := 77) fX8_66 rfl rfl dX8_layMarks_74 rfl ?_
                refine SW.iload_n (q := 78) (i := 2) dX8_layMarks_77 rfl rfl rfl ?_
                refine SW.ialdN (q := 79) (k := p) rfl (rfl) (by omega) (by decide) dX8_layMarks_78 rfl ?_
                refine SW.if_lt (q := 82) (tgt := 158) dX8_layMarks_79 (by decide) rfl (fun c79 => absurd c79 ((by rw [m1]; exact nI_pos (by omega)))) (fun _ => ?_)
                refine SW.aload_n (q := 83) (i := 0) dX8_layMarks_82 rfl rfl rfl ?_
                refine SW.iload_n (q := 84) (i := 2) dX8_layMarks_83 rfl rfl rfl ?_
                refine SW.iload_n (q := 85) (i := 3) dX8_layMarks_84 rfl rfl rfl ?_
                refine SW.cF (q := 88) (C_X8_beside hM2 rfl rfl hp (by omega)) vX8_114 (by decide) rfl rfl rfl rfl (Nat.le_of_ble_eq_true rfl) dX8_layMarks_85 rfl ?_
                rw [hnb, vi]
                refine SW.istore (q := 90) (i := 4) dX8_layMarks_88 (by decide) rfl ?_
                refine SW.iload (q := 92) (i := 4) dX8_layMarks_90 rfl rfl ?_
                refine SW.if_lt (q := 95) (tgt := 152) dX8_layMarks_92 (by decide) rfl (fun c92 => absurd c92 ((nI_pos (by omega)))) (fun _ => ?_)
                refine SW.aload_n (q := 96) (i := 0) dX8_layMarks_95 rfl rfl rfl ?_
                refine SW.getR (q := 99) (i := 59) (j := 77) fX8_66 rfl rfl dX8_layMarks_96 rfl ?_
                refine SW.iload (q := 101) (i := 4) dX8_layMarks_99 rfl rfl ?_
                refine SW.ialdN (q := 102) (k := v0) rfl (rfl) (by omega) (by decide) dX8_layMarks_101 rfl ?_
                refine SW.if_lt (q := 105) (tgt := 152) dX8_layMarks_102 (by decide) rfl (fun _ => ?_) (fun c102 => absurd ((by rw [(hm v0 vP).1 hkv]; decide)) c102)
                refine SW.iinc (q := 155) (v := _ + 1) dX8_layMarks_152 rfl rfl (by decide) rfl ?_
                refine SW.goto (q := 68) dX8_layMarks_155 (by decide) ?_
                exact SW.eq (by rw [nI_1]; rfl) rfl rfl (skip (fun q z w => by rw [hnb] at z; cases z; exact absurd w.2.2.1 hkv) _)
          · refine SW.iload_n (q := 69) (i := 3) dX8_layMarks_68 rfl rfl rfl ?_
            refine SW.iconst (q := 70) (v := 4) dX8_layMarks_69 (by decide) rfl ?_
            refine SW.icmp_ge (q := 73) (tgt := 158) dX8_layMarks_70 (by decide) rfl (fun c70 => absurd c70 ((nI_ge (a := e) (b := 4) (by omega) (by omega)))) (fun _ => ?_)
            refine SW.aload_n (q := 74) (i := 0) dX8_layMarks_73 rfl rfl rfl ?_
            refine SW.getR (q := 77) (i := 59) (j := 77) fX8_66 rfl rfl dX8_layMarks_74 rfl ?_
            refine SW.iload_n (q := 78) (i := 2) dX8_layMarks_77 rfl rfl rfl ?_
            refine SW.ialdN (q := 79) (k := p) rfl (rfl) (by omega) (by decide) dX8_layMarks_78 rfl ?_
            refine SW.if_lt (q := 82) (tgt := 158) dX8_layMarks_79 (by decide) rfl (fun _ => ?_) (fun c79 => absurd ((by rw [e77.1 hk]; decide)) c79)
            refine SW.iinc (q := 161) (v := _ + 1) dX8_layMarks_158 rfl rfl (by decide) rfl ?_
            refine SW.goto (q := 53) dX8_layMarks_161 (by decide) ?_
            refine SW.eq (by rw [nI_1]; rfl) rfl rfl (ih (p + 1) (by omega) b m τ hf hm hb1 (fun z => ⟨(hb0 z).1, fun p' e' hp' he' => ?_⟩) _ _)
            by_cases y : p' = p
            · subst y; exact fun q _ w => absurd w.2.1 hk
            · exact (hb0 z).2.1 p' e' (by omega) he'
      refine SW.iload_n (q := 54) (i := 2) dX8_layMarks_53 rfl rfl rfl ?_
      refine SW.aload_n (q := 55) (i := 0) dX8_layMarks_54 rfl rfl rfl ?_
      refine SW.getI (q := 58) (i := 59) fX8_7 rfl rfl dX8_layMarks_55 rfl ?_
      refine SW.aload_n (q := 59) (i := 0) dX8_layMarks_58 rfl rfl rfl ?_
      refine SW.getI (q := 62) (i := 59) fX8_7 rfl rfl dX8_layMarks_59 rfl ?_
      refine SW.imul (q := 63) dX8_layMarks_62 rfl ?_
      refine SW.icmp_ge (q := 66) (tgt := 164) dX8_layMarks_63 (by decide) rfl (fun c63 => absurd c63 ((by rw [hf 59 (by decide), en, pk_mul]; exact nI_ge (by omega) (by omega)))) (fun _ => ?_)
      refine SW.iconst (q := 67) (v := 0) dX8_layMarks_66 (by decide) rfl ?_
      refine SW.istore_n (q := 68) (i := 3) dX8_layMarks_67 rfl (by decide) rfl ?_
      exact edges 4 0 rfl b m τ hf hm hb1 (fun z => ⟨(hb0 z).1, (hb0 z).2, fun e' he' => absurd he' (Nat.not_lt_zero _)⟩) _
  have outer : ∀ (K : Nat) (m : Nat → Nat) (τ : sw_Sg), lm_s m (n * n) ≤ K → fr_ [77] σ τ → lm_ n kd lv m τ → ∀ B C D, SW X 2 mX8_layMarks sw_E0 (sw_Rv (fun u => fr_ [77] σ u ∧ ∃ m, lm_F n kd lv m u)) 45 [.ref (sw_ad X 59), .int 1, B, C, D] [] τ := by
    intro K
    induction K with
    | zero =>
      intro m τ hK hf hm B C D
      refine SW.iload_n (q := 46) (i := 1) dX8_layMarks_45 rfl rfl rfl ?_
      refine SW.if_eq (q := 49) (tgt := 167) dX8_layMarks_46 (by decide) rfl (fun c46 => absurd c46 ((by decide))) (fun _ => ?_)
      refine SW.iconst (q := 50) (v := 0) dX8_layMarks_49 (by decide) rfl ?_
      refine SW.istore_n (q := 51) (i := 1) dX8_layMarks_50 rfl (by decide) rfl ?_
      refine SW.iconst (q := 52) (v := 0) dX8_layMarks_51 (by decide) rfl ?_
      refine SW.istore_n (q := 53) (i := 2) dX8_layMarks_52 rfl (by decide) rfl ?_
      exact pass m _ rfl (fun m' τ' _ _ h => by omega) (n * n) 0 (by omega) false m τ hf hm (fun z => by cases z) (fun _ => ⟨rfl, fun p' e hp' => absurd hp' (Nat.not_lt_zero _)⟩) _ _
    | succ K ih =>
      intro m τ hK hf hm B C D
      refine SW.iload_n (q := 46) (i := 1) dX8_layMarks_45 rfl rfl rfl ?_
      refine SW.if_eq (q := 49) (tgt := 167) dX8_layMarks_46 (by decide) rfl (fun c46 => absurd c46 ((by decide))) (fun _ => ?_)
      refine SW.iconst (q := 50) (v := 0) dX8_layMarks_49 (by decide) rfl ?_
      refine SW.istore_n (q := 51) (i := 1) dX8_layMarks_50 rfl (by decide) rfl ?_
      refine SW.iconst (q := 52) (v := 0) dX8_layMarks_51 (by decide) rfl ?_
      refine SW.istore_n (q := 53) (i := 2) dX8_layMarks_52 rfl (by decide) rfl ?_
      exact pass m _ rfl (fun m' τ' h1 h2 h => ih m' τ' (by omega) h1 h2) (n * n) 0 (by omega) false m τ hf hm (fun z => by cases z) (fun _ => ⟨rfl, fun p' e hp' => absurd hp' (Nat.not_lt_zero _)⟩) _ _
  have init : ∀ (k p : Nat), p + k = n * n → ∀ (τ : sw_Sg), fr_ [77] σ τ → (∀ q, q < p → (¬ kd q = 2 → τ 77 q = -6) ∧ (kd q = 2 → τ 77 q = nI q)) → ∀ B C D, SW X 2 mX8_layMarks sw_E0 (sw_Rv (fun u => fr_ [77] σ u ∧ ∃ m, lm_F n kd lv m u)) 2 [.ref (sw_ad X 59), .int (nI p), B, C, D] [] τ := by
    intro k
    induction k with
    | zero =>
      intro p hp τ hf hI B C D
      obtain rfl : p = n * n := by omega
      refine SW.iload_n (q := 3) (i := 1) dX8_layMarks_2 rfl rfl rfl ?_
      refine SW.aload_n (q := 4) (i := 0) dX8_layMarks_3 rfl rfl rfl ?_
      refine SW.getI (q := 7) (i := 59) fX8_7 rfl rfl dX8_layMarks_4 rfl ?_
      refine SW.aload_n (q := 8) (i := 0) dX8_layMarks_7 rfl rfl rfl ?_
      refine SW.getI (q := 11) (i := 59) fX8_7 rfl rfl dX8_layMarks_8 rfl ?_
      refine SW.imul (q := 12) dX8_layMarks_11 rfl ?_
      refine SW.icmp_ge (q := 15) (tgt := 43) dX8_layMarks_12 (by decide) rfl (fun _ => ?_) (fun c12 => absurd ((by rw [hf 59 (by decide), en, pk_mul]; exact Int32.le_refl _)) c12)
      refine SW.iconst (q := 44) (v := 1) dX8_layMarks_43 (by decide) rfl ?_
      refine SW.istore_n (q := 45) (i := 1) dX8_layMarks_44 rfl (by decide) rfl ?_
      exact outer _ (fun p => p) τ (Nat.le_refl _) hf (fun p hp => ⟨(hI p hp).1, fun hk => ⟨(hI p hp).2 hk, lk_rf hk, Nat.le_refl _⟩⟩) _ _ _
    | succ k ih =>
      intro p hpk τ hf hI B C D
      have e70 : τ 70 = kd := by rw [hf 70 (by decide)]; exact hkd
      have go : ∀ v : Int32, (¬ kd p = 2 → v = -6) → (kd p = 2 → v = nI p) → ∀ B C D, SW X 2 mX8_layMarks sw_E0 (sw_Rv (fun u => fr_ [77] σ u ∧ ∃ m, lm_F n kd lv m u)) 2 [.ref (sw_ad X 59), .int (nI (p + 1)), B, C, D] [] (sw_up τ 77 p v) := by
        intro v v1 v2 B C D
        refine ih (p + 1) (by omega) _ (fr_up hf (by decide)) (fun q hq => ?_) B C D
        by_cases z : q = p
        · subst z; rw [sw_i1]; exact ⟨v1, v2⟩
        · rw [sw_o1 z]; exact hI q (by omega)
      by_cases hk : kd p = 2
      · refine SW.iload_n (q := 3) (i := 1) dX8_layMarks_2 rfl rfl rfl ?_
        refine SW.aload_n (q := 4) (i := 0) dX8_layMarks_3 rfl rfl rfl ?_
        refine SW.getI (q := 7) (i := 59) fX8_7 rfl rfl dX8_layMarks_4 rfl ?_
        refine SW.aload_n (q := 8) (i := 0) dX8_layMarks_7 rfl rfl rfl ?_
        refine SW.getI (q := 11) (i := 59) fX8_7 rfl rfl dX8_layMarks_8 rfl ?_
        refine SW.imul (q := 12) dX8_layMarks_11 rfl ?_
        refine SW.icmp_ge (q := 15) (tgt := 43) dX8_layMarks_12 (by decide) rfl (fun c12 => absurd c12 ((by rw [hf 59 (by decide), en, pk_mul]; exact nI_ge (by omega) (by omega)))) (fun _ => ?_)
        refine SW.aload_n (q := 16) (i := 0) dX8_layMarks_15 rfl rfl rfl ?_
        refine SW.getR (q := 19) (i := 59) (j := 77) fX8_66 rfl rfl dX8_layMarks_16 rfl ?_
        refine SW.iload_n (q := 20) (i := 1) dX8_layMarks_19 rfl rfl rfl ?_
        refine SW.aload_n (q := 21) (i := 0) dX8_layMarks_20 rfl rfl rfl ?_
        refine SW.getR (q := 24) (i := 59) (j := 70) fX8_44 rfl rfl dX8_layMarks_21 rfl ?_
        refine SW.iload_n (q := 25) (i := 1) dX8_layMarks_24 rfl rfl rfl ?_
        refine SW.ialdN (q := 26) (k := p) rfl (rfl) (by omega) (by decide) dX8_layMarks_25 rfl ?_
        refine SW.iconst (q := 27) (v := 2) dX8_layMarks_26 (by decide) rfl ?_
        refine SW.icmp_ne (q := 30) (tgt := 34) dX8_layMarks_27 (by decide) rfl (fun c27 => absurd ((by rw [e70]; exact hk)) c27) (fun _ => ?_)
        refine SW.iload_n (q := 31) (i := 1) dX8_layMarks_30 rfl rfl rfl ?_
        refine SW.goto (q := 36) dX8_layMarks_31 (by decide) ?_
        refine SW.iastN (q := 37) (k := p) rfl (rfl) (by omega) (by decide) dX8_layMarks_36 rfl ?_
        refine SW.iinc (q := 40) (v := _ + 1) dX8_layMarks_37 rfl rfl (by decide) rfl ?_
        refine SW.goto (q := 2) dX8_layMarks_40 (by decide) ?_
        exact SW.eq (by rw [nI_1]; rfl) rfl rfl (go _ (fun z => absurd hk z) (fun _ => rfl) _ _ _)
      · refine SW.iload_n (q := 3) (i := 1) dX8_layMarks_2 rfl rfl rfl ?_
        refine SW.aload_n (q := 4) (i := 0) dX8_layMarks_3 rfl rfl rfl ?_
        refine SW.getI (q := 7) (i := 59) fX8_7 rfl rfl dX8_layMarks_4 rfl ?_
        refine SW.aload_n (q := 8) (i := 0) dX8_layMarks_7 rfl rfl rfl ?_
        refine SW.getI (q := 11) (i := 59) fX8_7 rfl rfl dX8_layMarks_8 rfl ?_
        refine SW.imul (q := 12) dX8_layMarks_11 rfl ?_
        refine SW.icmp_ge (q := 15) (tgt := 43) dX8_layMarks_12 (by decide) rfl (fun c12 => absurd c12 ((by rw [hf 59 (by decide), en, pk_mul]; exact nI_ge (by omega) (by omega)))) (fun _ => ?_)
        refine SW.aload_n (q := 16) (i := 0) dX8_layMarks_15 rfl rfl rfl ?_
        refine SW.getR (q := 19) (i := 59) (j := 77) fX8_66 rfl rfl dX8_layMarks_16 rfl ?_
        refine SW.iload_n (q := 20) (i := 1) dX8_layMarks_19 rfl rfl rfl ?_
        refine SW.aload_n (q := 21) (i := 0) dX8_layMarks_20 rfl rfl rfl ?_
        refine SW.getR (q := 24) (i := 59) (j := 70) fX8_44 rfl rfl dX8_layMarks_21 rfl ?_
        refine SW.iload_n (q := 25) (i := 1) dX8_layMarks_24 rfl rfl rfl ?_
        refine SW.ialdN (q := 26) (k := p) rfl (rfl) (by omega) (by decide) dX8_layMarks_25 rfl ?_
        refine SW.iconst (q := 27) (v := 2) dX8_layMarks_26 (by decide) rfl ?_
        refine SW.icmp_ne (q := 30) (tgt := 34) dX8_layMarks_27 (by decide) rfl (fun _ => ?_) (fun c27 => absurd c27 ((by rw [e70]; exact hk)))
        refine SW.bipush (q := 36) (v := (-6)) dX8_layMarks_34 (by decide) rfl ?_
        refine SW.iastN (q := 37) (k := p) rfl (rfl) (by omega) (by decide) dX8_layMarks_36 rfl ?_
        refine SW.iinc (q := 40) (v := _ + 1) dX8_layMarks_37 rfl rfl (by decide) rfl ?_
        refine SW.goto (q := 2) dX8_layMarks_40 (by decide) ?_
        exact SW.eq (by rw [nI_1]; rfl) rfl rfl (go _ (fun _ => rfl) (fun z => absurd z hk) _ _ _)
  refine SW.iconst (q := 1) (v := 0) dX8_layMarks_0 (by decide) rfl ?_
  refine SW.istore_n (q := 2) (i := 1) dX8_layMarks_1 rfl (by decide) rfl ?_
  exact init (n * n) 0 (by omega) σ fr_rf (fun q hq => absurd hq (Nat.not_lt_zero _)) _ _ _
end GATHER
