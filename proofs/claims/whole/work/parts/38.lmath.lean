/-! LAKES, as mathematics, and in the class -/
def lk_l (n : Nat) (kd lv : Nat → Int32) (p q : Nat) : Prop := wl_adj n p q ∧ kd p = 2 ∧ kd q = 2 ∧ lv p = lv q
def lk_w (n : Nat) (kd lv : Nat → Int32) (p : Nat) : Nat → Nat → Prop
  | 0, q => q = p ∧ kd p = 2
  | l + 1, q => ∃ u, lk_w n kd lv p l u ∧ lk_l n kd lv u q
def lk_c (n : Nat) (kd lv : Nat → Int32) (p q : Nat) : Prop := ∃ l, lk_w n kd lv p l q
def lk_m (n : Nat) (kd lv : Nat → Int32) (p : Nat) : Prop := kd p = 2 ∧ ∀ q, lk_c n kd lv p q → p ≤ q
/-- how many below N -/
noncomputable def lk_n (P : Nat → Prop) : Nat → Nat
  | 0 => 0
  | k + 1 => lk_n P k + @ite _ (P k) (Classical.propDecidable _) 1 0
section LMATH
variable {n p q r u : Nat} {kd lv : Nat → Int32} {P P' : Nat → Prop}
theorem lk_rf (h : kd p = 2) : lk_c n kd lv p p := ⟨0, rfl, h⟩
theorem lk_go (h : lk_c n kd lv p u) (h2 : lk_l n kd lv u q) : lk_c n kd lv p q := by
  obtain ⟨l, hl⟩ := h
  exact ⟨l + 1, u, hl, h2⟩
theorem lk_ind {S : Nat → Prop} (hp : kd p = 2 → S p) (hS : ∀ u q, lk_c n kd lv p u → S u → lk_l n kd lv u q → S q) (h : lk_c n kd lv p q) : S q := by
  obtain ⟨l, hl⟩ := h
  induction l generalizing q with
  | zero => rw [hl.1]; exact hp hl.2
  | succ l ih =>
    obtain ⟨u, h1, h2⟩ := hl
    exact hS u q ⟨l, h1⟩ (ih h1) h2
theorem lk_k1 (h : lk_c n kd lv p q) : kd p = 2 := by
  obtain ⟨l, hl⟩ := h
  induction l generalizing q with
  | zero => exact hl.2
  | succ l ih => obtain ⟨u, h1, h2⟩ := hl; exact ih h1
theorem lk_k2 (h : lk_c n kd lv p q) : kd q = 2 ∧ lv q = lv p :=
  lk_ind (S := fun q => kd q = 2 ∧ lv q = lv p) (fun h => ⟨h, rfl⟩) (fun u q _ hu hl => ⟨hl.2.2.1, by rw [← hl.2.2.2]; exact hu.2⟩) h
theorem lk_lt (hp : p < n * n) (h : lk_c n kd lv p q) : q < n * n :=
  lk_ind (S := fun q => q < n * n) (fun _ => hp) (fun u q _ hu hl => by obtain ⟨⟨e, _, ea⟩, -⟩ := hl; exact (gr_nb_lt hu ea).1) h
theorem lk_tr (h : lk_c n kd lv p q) (h2 : lk_c n kd lv q r) : lk_c n kd lv p r :=
  lk_ind (S := fun r => lk_c n kd lv p r) (fun _ => h) (fun u r _ hu hl => lk_go hu hl) h2
theorem lk_l_sym (hp : p < n * n) (h : lk_l n kd lv p q) : lk_l n kd lv q p := ⟨wl_adj_sym hp h.1, h.2.2.1, h.2.1, h.2.2.2.symm⟩
theorem lk_sym (hp : p < n * n) (h : lk_c n kd lv p q) : lk_c n kd lv q p :=
  lk_ind (S := fun q => lk_c n kd lv q p) (fun h => lk_rf h) (fun u q hc hu hl => lk_tr (lk_go (lk_rf hl.2.2.1) (lk_l_sym (lk_lt hp hc) hl)) hu) h
theorem lk_n_y {k : Nat} (h : P k) : lk_n P (k + 1) = lk_n P k + 1 := by
  rw [lk_n, if_pos h]
theorem lk_n_n {k : Nat} (h : ¬ P k) : lk_n P (k + 1) = lk_n P k := by
  rw [lk_n, if_neg h]; rfl
theorem lk_n_c : ∀ k, (∀ q, q < k → (P q ↔ P' q)) → lk_n P k = lk_n P' k := by
  intro k
  induction k with
  | zero => intro _; rfl
  | succ k ih =>
    intro h
    have e := ih (fun q hq => h q (by omega))
    by_cases z : P k
    · rw [lk_n_y z, lk_n_y ((h k (by omega)).mp z), e]
    · rw [lk_n_n z, lk_n_n (fun y => z ((h k (by omega)).mpr y)), e]
theorem lk_n_le : ∀ k, lk_n P k ≤ k := by
  intro k
  induction k with
  | zero => exact Nat.le_refl _
  | succ k ih =>
    by_cases z : P k
    · rw [lk_n_y z]; omega
    · rw [lk_n_n z]; omega
theorem lk_n_add {b : Nat} (hb : ¬ P b) (h : ∀ x, P' x ↔ P x ∨ x = b) : ∀ k, b < k → lk_n P' k = lk_n P k + 1 := by
  intro k
  induction k with
  | zero => intro h; omega
  | succ k ih =>
    intro hk
    by_cases z : k = b
    · subst z
      rw [lk_n_n hb, lk_n_y ((h k).mpr (Or.inr rfl))]
      congr 1
      exact lk_n_c k (fun q hq => ⟨fun y => ((h q).mp y).resolve_right (by omega), fun y => (h q).mpr (Or.inl y)⟩)
    · have e := ih (by omega)
      by_cases y : P k
      · rw [lk_n_y y, lk_n_y ((h k).mpr (Or.inl y)), e]
      · rw [lk_n_n y, lk_n_n (fun w => y (((h k).mp w).resolve_right z)), e]
theorem lk_n_0 (h : ∀ x, ¬ P x) : ∀ k, lk_n P k = 0 := by
  intro k
  induction k with
  | zero => rfl
  | succ k ih => rw [lk_n_n (h k), ih]
theorem lk_c_congr {kd' lv' : Nat → Int32} (hp : p < n * n) (h : ∀ q, q < n * n → kd q = kd' q ∧ lv q = lv' q) (hc : lk_c n kd lv p q) : lk_c n kd' lv' p q :=
  lk_ind (S := fun q => lk_c n kd' lv' p q) (fun z => lk_rf (by rw [← (h p hp).1]; exact z)) (fun u q c hu hl => by
    have hu1 := lk_lt hp c
    have hq1 := lk_lt hp (lk_go c hl)
    refine lk_go hu ⟨hl.1, ?_, ?_, ?_⟩
    · rw [← (h u hu1).1]; exact hl.2.1
    · rw [← (h q hq1).1]; exact hl.2.2.1
    · rw [← (h u hu1).2, ← (h q hq1).2]; exact hl.2.2.2) hc
theorem lk_cn_congr {kd' lv' : Nat → Int32} (hp : p < n * n) (h : ∀ q, q < n * n → kd q = kd' q ∧ lv q = lv' q) (N : Nat) : lk_n (lk_c n kd lv p) N = lk_n (lk_c n kd' lv' p) N :=
  lk_n_c N (fun q _ => ⟨lk_c_congr hp h, lk_c_congr hp (fun q hq => ⟨(h q hq).1.symm, (h q hq).2.symm⟩)⟩)
theorem lk_m_congr {kd' lv' : Nat → Int32} (h : ∀ q, q < n * n → kd q = kd' q ∧ lv q = lv' q) : lk_n (lk_m n kd lv) (n * n) = lk_n (lk_m n kd' lv') (n * n) := by
  have h' : ∀ q, q < n * n → kd' q = kd q ∧ lv' q = lv q := fun q hq => ⟨(h q hq).1.symm, (h q hq).2.symm⟩
  refine lk_n_c _ (fun q hq => ⟨fun z => ⟨by rw [← (h q hq).1]; exact z.1, fun r hr => z.2 r (lk_c_congr hq h' hr)⟩, fun z => ⟨by rw [(h q hq).1]; exact z.1, fun r hr => z.2 r (lk_c_congr hq h hr)⟩⟩)
end LMATH
section POOLS
variable {X : sw_X} {σ : sw_Sg} {x y v w st : Int32} {n p q c s : Nat} {kd lv : Nat → Int32}
theorem C_X2_spread (hT : gr_T σ n) (hkd : σ 48 = kd) (hlv : σ 41 = lv) (hc : σ 3 3 = nI c) (c576 : c < 576) (hs : s < n * n) (hks : kd s = 2) (hx : x = nI s) (hfree : ∀ q, lk_c n kd lv s q → σ 49 q = -6) :
    sw_Mi X 2 mX2_spread [.ref (sw_ad X 3), .ref (sw_ad X 1), .ref (sw_ad X 2), .int x] σ (fun v u => fr_ [49, 51] σ u ∧ (∀ q, (lk_c n kd lv s q → u 49 q = nI c) ∧ (¬ lk_c n kd lv s q → u 49 q = σ 49 q)) ∧ v = nI (lk_n (lk_c n kd lv s) (n * n))) := by
  subst hx
  have n24 : n ≤ 24 := hT.2.1
  have h576 := gr_576 n24
  refine sw_ME.ofF (by decide +kernel) rfl (Nat.le_of_ble_eq_true rfl) rfl ?_
  have inner : ∀ (i : Nat) (Z0 : Nat → Nat) (F0 : Nat), i < F0 → (∀ i, i < F0 → lk_c n kd lv s (Z0 i)) → ∀ (k e : Nat), e + k = 4 → ∀ (Z : Nat → Nat) (F : Nat) (τ : sw_Sg), F0 ≤ F → (∀ j, j < F0 → Z j = Z0 j) → (∀ i, i < F → lk_c n kd lv s (Z i)) → (∀ i j, i < F → j < F → Z i = Z j → i = j) → F = lk_n (wt_tk Z F) (n * n) →
      (∀ j, j < F → τ 51 j = nI (Z j)) → fr_ [49, 51] σ τ → (∀ q, (wt_tk Z F q → τ 49 q = nI c) ∧ (¬ wt_tk Z F q → τ 49 q = σ 49 q)) → (∀ e' q, e' < e → gr_nb n (Z0 i) e' = some q → lk_l n kd lv (Z0 i) q → wt_tk Z F q) → ∀ B,
      (∀ Z F τ, F0 ≤ F → (∀ j, j < F0 → Z j = Z0 j) → (∀ i, i < F → lk_c n kd lv s (Z i)) → (∀ i j, i < F → j < F → Z i = Z j → i = j) → F = lk_n (wt_tk Z F) (n * n) → (∀ j, j < F → τ 51 j = nI (Z j)) → fr_ [49, 51] σ τ → (∀ q, (wt_tk Z F q → τ 49 q = nI c) ∧ (¬ wt_tk Z F q → τ 49 q = σ 49 q)) → (∀ q, lk_l n kd lv (Z0 i) q → wt_tk Z F q) → ∀ A B C,
        SW X 2 mX2_spread sw_E0 (sw_Ri (fun v u => fr_ [49, 51] σ u ∧ (∀ q, (lk_c n kd lv s q → u 49 q = nI c) ∧ (¬ lk_c n kd lv s q → u 49 q = σ 49 q)) ∧ v = nI (lk_n (lk_c n kd lv s) (n * n)))) 27 [.ref (sw_ad X 3), .ref (sw_ad X 1), .ref (sw_ad X 2), .int (nI s), .int (nI F), .int (nI (i + 1)), A, B, C] [] τ) →
      SW X 2 mX2_spread sw_E0 (sw_Ri (fun v u => fr_ [49, 51] σ u ∧ (∀ q, (lk_c n kd lv s q → u 49 q = nI c) ∧ (¬ lk_c n kd lv s q → u 49 q = σ 49 q)) ∧ v = nI (lk_n (lk_c n kd lv s) (n * n)))) 56 [.ref (sw_ad X 3), .ref (sw_ad X 1), .ref (sw_ad X 2), .int (nI s), .int (nI F), .int (nI i), .int (nI (Z0 i)), .int (nI e), B] [] τ := by
    intro i Z0 F0 hi hZ0 k
    have cz := hZ0 i hi
    have zP := lk_lt hs cz
    have zk := lk_k2 cz
    induction k with
    | zero =>
      intro e he Z F τ a0 a1 a2 a3 a4 a5 a6 a7 a8 B kont
      obtain rfl : e = 4 := by omega
      refine SW.iload (q := 58) (i := 7) dX2_spread_56 rfl rfl ?_
      refine SW.iconst (q := 59) (v := 4) dX2_spread_58 (by decide) rfl ?_
      refine SW.icmp_ge (q := 62) (tgt := 159) dX2_spread_59 (by decide) rfl (fun _ => ?_) (fun c59 => absurd ((by decide)) c59)
      refine SW.iinc (q := 162) (v := _ + 1) dX2_spread_159 rfl rfl (by decide) rfl ?_
      refine SW.goto (q := 27) dX2_spread_162 (by decide) ?_
      refine SW.eq (by rw [nI_1]; rfl) rfl rfl (kont Z F τ a0 a1 a2 a3 a4 a5 a6 a7 (fun q hq => ?_) _ _ _)
      obtain ⟨e', e4, ea⟩ := hq.1
      exact a8 e' q e4 ea hq
    | succ k ih =>
      intro e he Z F τ a0 a1 a2 a3 a4 a5 a6 a7 a8 B kont
      have hT2 : gr_T τ n := hT.fr a6 (by decide) (by decide) (by decide)
      have e48 : τ 48 = kd := by rw [a6 48 (by decide)]; exact hkd
      have e41 : τ 41 = lv := by rw [a6 41 (by decide)]; exact hlv
      have e33 : τ 3 3 = nI c := by rw [a6 3 (by decide)]; exact hc
      have skip : (∀ q, gr_nb n (Z0 i) e = some q → lk_l n kd lv (Z0 i) q → wt_tk Z F q) → ∀ B, SW X 2 mX2_spread sw_E0 (sw_Ri (fun v u => fr_ [49, 51] σ u ∧ (∀ q, (lk_c n kd lv s q → u 49 q = nI c) ∧ (¬ lk_c n kd lv s q → u 49 q = σ 49 q)) ∧ v = nI (lk_n (lk_c n kd lv s) (n * n)))) 56 [.ref (sw_ad X 3), .ref (sw_ad X 1), .ref (sw_ad X 2), .int (nI s), .int (nI F), .int (nI i), .int (nI (Z0 i)), .int (nI (e + 1)), B] [] τ := by
        intro hv B
        refine ih (e + 1) (by omega) Z F τ a0 a1 a2 a3 a4 a5 a6 a7 (fun e' q he' ea hl => ?_) B kont
        by_cases z : e' = e
        · subst z; exact hv q ea hl
        · exact a8 e' q (by omega) ea hl
      cases hnb : gr_nb n (Z0 i) e with
      | none =>
        refine SW.iload (q := 58) (i := 7) dX2_spread_56 rfl rfl ?_
        refine SW.iconst (q := 59) (v := 4) dX2_spread_58 (by decide) rfl ?_
        refine SW.icmp_ge (q := 62) (tgt := 159) dX2_spread_59 (by decide) rfl (fun c59 => absurd c59 ((nI_ge (a := e) (b := 4) (by omega) (by omega)))) (fun _ => ?_)
        refine SW.aload_n (q := 63) (i := 1) dX2_spread_62 rfl rfl rfl ?_
        refine SW.iload (q := 65) (i := 6) dX2_spread_63 rfl rfl ?_
        refine SW.iload (q := 67) (i := 7) dX2_spread_65 rfl rfl ?_
        refine SW.cF (q := 70) (C_X5_beside hT2 rfl rfl zP (by omega)) vX2_55 (by decide) rfl rfl rfl rfl (Nat.le_of_ble_eq_true rfl) dX2_spread_67 rfl ?_
        rw [hnb]
        refine SW.istore (q := 72) (i := 8) dX2_spread_70 (by decide) rfl ?_
        refine SW.iload (q := 74) (i := 8) dX2_spread_72 rfl rfl ?_
        refine SW.bipush (q := 76) (v := (-6)) dX2_spread_74 (by decide) rfl ?_
        refine SW.icmp_eq (q := 79) (tgt := 153) dX2_spread_76 (by decide) rfl (fun _ => ?_) (fun c76 => absurd (rfl) c76)
        refine SW.iinc (q := 156) (v := _ + 1) dX2_spread_153 rfl rfl (by decide) rfl ?_
        refine SW.goto (q := 56) dX2_spread_156 (by decide) ?_
        exact SW.eq (by rw [nI_1]; rfl) rfl rfl (skip (fun q z => by rw [hnb] at z; cases z) _)
      | some v0 =>
        have vP := (gr_nb_lt zP hnb).1
        have vi : gr_v (some v0) = nI v0 := rfl
        by_cases hm : wt_tk Z F v0
        · refine SW.iload (q := 58) (i := 7) dX2_spread_56 rfl rfl ?_
          refine SW.iconst (q := 59) (v := 4) dX2_spread_58 (by decide) rfl ?_
          refine SW.icmp_ge (q := 62) (tgt := 159) dX2_spread_59 (by decide) rfl (fun c59 => absurd c59 ((nI_ge (a := e) (b := 4) (by omega) (by omega)))) (fun _ => ?_)
          refine SW.aload_n (q := 63) (i := 1) dX2_spread_62 rfl rfl rfl ?_
          refine SW.iload (q := 65) (i := 6) dX2_spread_63 rfl rfl ?_
          refine SW.iload (q := 67) (i := 7) dX2_spread_65 rfl rfl ?_
          refine SW.cF (q := 70) (C_X5_beside hT2 rfl rfl zP (by omega)) vX2_55 (by decide) rfl rfl rfl rfl (Nat.le_of_ble_eq_true rfl) dX2_spread_67 rfl ?_
          rw [hnb, vi]
          refine SW.istore (q := 72) (i := 8) dX2_spread_70 (by decide) rfl ?_
          refine SW.iload (q := 74) (i := 8) dX2_spread_72 rfl rfl ?_
          refine SW.bipush (q := 76) (v := (-6)) dX2_spread_74 (by decide) rfl ?_
          refine SW.icmp_eq (q := 79) (tgt := 153) dX2_spread_76 (by decide) rfl (fun c76 => absurd c76 ((nI_n6 (by omega)))) (fun _ => ?_)
          refine SW.aload_n (q := 80) (i := 0) dX2_spread_79 rfl rfl rfl ?_
          refine SW.getR (q := 83) (i := 3) (j := 23) fX2_14 rfl rfl dX2_spread_80 rfl ?_
          refine SW.iload (q := 85) (i := 8) dX2_spread_83 rfl rfl ?_
          refine SW.cF (q := 88) (C_X3_atn (i := 23) (j := 49) (n := 576) rfl rfl (k := v0) rfl (by omega)) vX2_43 (by decide) rfl rfl rfl rfl (Nat.le_of_ble_eq_true rfl) dX2_spread_85 rfl ?_
          refine SW.bipush (q := 90) (v := (-6)) dX2_spread_88 (by decide) rfl ?_
          refine SW.icmp_ne (q := 93) (tgt := 153) dX2_spread_90 (by decide) rfl (fun _ => ?_) (fun c90 => absurd c90 ((by rw [(a7 v0).1 hm]; exact nI_n6 (by omega))))
          refine SW.iinc (q := 156) (v := _ + 1) dX2_spread_153 rfl rfl (by decide) rfl ?_
          refine SW.goto (q := 56) dX2_spread_156 (by decide) ?_
          exact SW.eq (by rw [nI_1]; rfl) rfl rfl (skip (fun q z _ => by rw [hnb] at z; cases z; exact hm) _)
        · have e49 := (a7 v0).2 hm
          by_cases hl : lk_l n kd lv (Z0 i) v0
          · have cv := lk_go cz hl
            have hlv0 : lv v0 = lv s := (lk_k2 cv).2
            have FK : F + 1 ≤ n * n := by
              have hZ' : ∀ i, i < F + 1 → va_up Z F v0 i < n * n := by
                intro i hi
                by_cases z : i = F
                · subst z; rw [up_i]; exact vP
                · rw [up_o z]; exact lk_lt hs (a2 i (by omega))
              refine inj_le hZ' (fun i j hi hj e => ?_)
              by_cases z : i = F
              · by_cases z2 : j = F
                · omega
                · subst z
                  rw [up_i, up_o z2] at e
                  exact absurd ⟨j, by omega, e.symm⟩ hm
              · by_cases z2 : j = F
                · subst z2
                  rw [up_i, up_o z] at e
                  exact absurd ⟨i, by omega, e⟩ hm
                · rw [up_o z, up_o z2] at e
                  exact a3 i j (by omega) (by omega) e
            refine SW.iload (q := 58) (i := 7) dX2_spread_56 rfl rfl ?_
            refine SW.iconst (q := 59) (v := 4) dX2_spread_58 (by decide) rfl ?_
            refine SW.icmp_ge (q := 62) (tgt := 159) dX2_spread_59 (by decide) rfl (fun c59 => absurd c59 ((nI_ge (a := e) (b := 4) (by omega) (by omega)))) (fun _ => ?_)
            refine SW.aload_n (q := 63) (i := 1) dX2_spread_62 rfl rfl rfl ?_
            refine SW.iload (q := 65) (i := 6) dX2_spread_63 rfl rfl ?_
            refine SW.iload (q := 67) (i := 7) dX2_spread_65 rfl rfl ?_
            refine SW.cF (q := 70) (C_X5_beside hT2 rfl rfl zP (by omega)) vX2_55 (by decide) rfl rfl rfl rfl (Nat.le_of_ble_eq_true rfl) dX2_spread_67 rfl ?_
            rw [hnb, vi]
            refine SW.istore (q := 72) (i := 8) dX2_spread_70 (by decide) rfl ?_
            refine SW.iload (q := 74) (i := 8) dX2_spread_72 rfl rfl ?_
            refine SW.bipush (q := 76) (v := (-6)) dX2_spread_74 (by decide) rfl ?_
            refine SW.icmp_eq (q := 79) (tgt := 153) dX2_spread_76 (by decide) rfl (fun c76 => absurd c76 ((nI_n6 (by omega)))) (fun _ => ?_)
            refine SW.aload_n (q := 80) (i := 0) dX2_spread_79 rfl rfl rfl ?_
            refine SW.getR (q := 83) (i := 3) (j := 23) fX2_14 rfl rfl dX2_spread_80 rfl ?_
            refine SW.iload (q := 85) (i := 8) dX2_spread_83 rfl rfl ?_
            refine SW.cF (q := 88) (C_X3_atn (i := 23) (j := 49) (n := 576) rfl rfl (k := v0) rfl (by omega)) vX2_43 (by decide) rfl rfl rfl rfl (Nat.le_of_ble_eq_true rfl) dX2_spread_85 rfl ?_
            refine SW.bipush (q := 90) (v := (-6)) dX2_spread_88 (by decide) rfl ?_
            refine SW.icmp_ne (q := 93) (tgt := 153) dX2_spread_90 (by decide) rfl (fun c90 => absurd ((by rw [e49]; exact hfree v0 cv)) c90) (fun _ => ?_)
            refine SW.aload_n (q := 94) (i := 2) dX2_spread_93 rfl rfl rfl ?_
            refine SW.getR (q := 97) (i := 2) (j := 22) fX2_38 rfl rfl dX2_spread_94 rfl ?_
            refine SW.iload (q := 99) (i := 8) dX2_spread_97 rfl rfl ?_
            refine SW.cF (q := 102) (C_X3_atn (i := 22) (j := 48) (n := 576) rfl rfl (k := v0) rfl (by omega)) vX2_43 (by decide) rfl rfl rfl rfl (Nat.le_of_ble_eq_true rfl) dX2_spread_99 rfl ?_
            refine SW.iconst (q := 103) (v := 2) dX2_spread_102 (by decide) rfl ?_
            refine SW.icmp_ne (q := 106) (tgt := 153) dX2_spread_103 (by decide) rfl (fun c103 => absurd ((by rw [e48]; exact hl.2.2.1)) c103) (fun _ => ?_)
            refine SW.aload_n (q := 107) (i := 2) dX2_spread_106 rfl rfl rfl ?_
            refine SW.getR (q := 110) (i := 2) (j := 15) fX2_59 rfl rfl dX2_spread_107 rfl ?_
            refine SW.iload (q := 112) (i := 8) dX2_spread_110 rfl rfl ?_
            refine SW.cF (q := 115) (C_X3_atn (i := 15) (j := 41) (n := 576) rfl rfl (k := v0) rfl (by omega)) vX2_43 (by decide) rfl rfl rfl rfl (Nat.le_of_ble_eq_true rfl) dX2_spread_112 rfl ?_
            refine SW.aload_n (q := 116) (i := 2) dX2_spread_115 rfl rfl rfl ?_
            refine SW.getR (q := 119) (i := 2) (j := 15) fX2_59 rfl rfl dX2_spread_116 rfl ?_
            refine SW.iload_n (q := 120) (i := 3) dX2_spread_119 rfl rfl rfl ?_
            refine SW.cF (q := 123) (C_X3_atn (i := 15) (j := 41) (n := 576) rfl rfl (k := s) rfl (by omega)) vX2_43 (by decide) rfl rfl rfl rfl (Nat.le_of_ble_eq_true rfl) dX2_spread_120 rfl ?_
            refine SW.icmp_ne (q := 126) (tgt := 153) dX2_spread_123 (by decide) rfl (fun c123 => absurd ((by rw [e41]; exact hlv0)) c123) (fun _ => ?_)
            refine SW.aload_n (q := 127) (i := 0) dX2_spread_126 rfl rfl rfl ?_
            refine SW.getR (q := 130) (i := 3) (j := 23) fX2_14 rfl rfl dX2_spread_127 rfl ?_
            refine SW.iload (q := 132) (i := 8) dX2_spread_130 rfl rfl ?_
            refine SW.aload_n (q := 133) (i := 0) dX2_spread_132 rfl rfl rfl ?_
            refine SW.getI (q := 136) (i := 3) fX2_26 rfl rfl dX2_spread_133 rfl ?_
            refine SW.cG (q := 139) (C_X3_putn (i := 23) (j := 49) (n := 576) rfl rfl (k := v0) rfl (by omega)) vX2_51 (by decide) rfl rfl rfl rfl (Nat.le_of_ble_eq_true rfl) dX2_spread_136 rfl ?_
            refine SW.aload_n (q := 140) (i := 0) dX2_spread_139 rfl rfl rfl ?_
            refine SW.getR (q := 143) (i := 3) (j := 25) fX2_23 rfl rfl dX2_spread_140 rfl ?_
            refine SW.iload (q := 145) (i := 4) dX2_spread_143 rfl rfl ?_
            refine SW.iload (q := 147) (i := 8) dX2_spread_145 rfl rfl ?_
            refine SW.cG (q := 150) (C_X3_putn (i := 25) (j := 51) (n := 576) rfl rfl (k := F) rfl (by omega)) vX2_51 (by decide) rfl rfl rfl rfl (Nat.le_of_ble_eq_true rfl) dX2_spread_147 rfl ?_
            refine SW.iinc (q := 153) (v := _ + 1) dX2_spread_150 rfl rfl (by decide) rfl ?_
            refine SW.iinc (q := 156) (v := _ + 1) dX2_spread_153 rfl rfl (by decide) rfl ?_
            refine SW.goto (q := 56) dX2_spread_156 (by decide) ?_
            refine SW.eq (by rw [nI_1, nI_1]; rfl) rfl rfl (ih (e + 1) (by omega) (va_up Z F v0) (F + 1) _ (by omega) (fun j hj => ?_) (fun j hj => ?_) (fun j1 j2 h1 h2 e => ?_) ?_ (fun j hj => ?_) (fr_up (fr_up a6 (by decide)) (by decide)) (fun q => ⟨fun hq => ?_, fun hq => ?_⟩) (fun e' q he' ea hll => ?_) _ kont)
            · rw [up_o (by omega)]; exact a1 j hj
            · by_cases z : j = F
              · subst z; rw [up_i]; exact cv
              · rw [up_o z]; exact a2 j (by omega)
            · by_cases z : j1 = F
              · by_cases z2 : j2 = F
                · omega
                · subst z
                  rw [up_i, up_o z2] at e
                  exact absurd ⟨j2, by omega, e.symm⟩ hm
              · by_cases z2 : j2 = F
                · subst z2
                  rw [up_i, up_o z] at e
                  exact absurd ⟨j1, by omega, e⟩ hm
                · rw [up_o z, up_o z2] at e
                  exact a3 j1 j2 (by omega) (by omega) e
            · rw [lk_n_add (P := wt_tk Z F) (b := v0) hm (fun x => wt_tk_snoc) (n * n) vP, ← a4]
            · by_cases z : j = F
              · subst z; rw [up_i, sw_i1]
              · rw [up_o z, sw_o1 z, sw_un (by decide)]; exact a5 j (by omega)
            · rw [sw_un (by decide)]
              by_cases z : q = v0
              · subst z; rw [sw_i1]; exact e33
              · rw [sw_o1 z]; exact (a7 q).1 ((wt_tk_snoc.mp hq).resolve_right z)
            · rw [sw_un (by decide), sw_o1 (fun z => hq (wt_tk_snoc.mpr (Or.inr z)))]
              exact (a7 q).2 (fun z => hq (wt_tk_snoc.mpr (Or.inl z)))
            · by_cases z : e' = e
              · subst z; rw [hnb] at ea; cases ea; exact wt_tk_snoc.mpr (Or.inr rfl)
              · exact wt_tk_snoc.mpr (Or.inl (a8 e' q (by omega) ea hll))
          · have nl : ¬ (kd v0 = 2 ∧ lv v0 = lv s) := fun z => hl ⟨⟨e, by omega, hnb⟩, zk.1, z.1, by rw [z.2]; exact zk.2⟩
            have no : ∀ q, gr_nb n (Z0 i) e = some q → lk_l n kd lv (Z0 i) q → wt_tk Z F q := fun q z w => by rw [hnb] at z; cases z; exact absurd w hl
            by_cases m1 : σ 49 v0 = -6
            · by_cases m2 : kd v0 = 2
              · have m3 : ¬ lv v0 = lv s := fun z => nl ⟨m2, z⟩
                refine SW.iload (q := 58) (i := 7) dX2_spread_56 rfl rfl ?_
                refine SW.iconst (q := 59) (v := 4) dX2_spread_58 (by decide) rfl ?_
                refine SW.icmp_ge (q := 62) (tgt := 159) dX2_spread_59 (by decide) rfl (fun c59 => absurd c59 ((nI_ge (a := e) (b := 4) (by omega) (by omega)))) (fun _ => ?_)
                refine SW.aload_n (q := 63) (i := 1) dX2_spread_62 rfl rfl rfl ?_
                refine SW.iload (q := 65) (i := 6) dX2_spread_63 rfl rfl ?_
                refine SW.iload (q := 67) (i := 7) dX2_spread_65 rfl rfl ?_
                refine SW.cF (q := 70) (C_X5_beside hT2 rfl rfl zP (by omega)) vX2_55 (by decide) rfl rfl rfl rfl (Nat.le_of_ble_eq_true rfl) dX2_spread_67 rfl ?_
                rw [hnb, vi]
                refine SW.istore (q := 72) (i := 8) dX2_spread_70 (by decide) rfl ?_
                refine SW.iload (q := 74) (i := 8) dX2_spread_72 rfl rfl ?_
                refine SW.bipush (q := 76) (v := (-6)) dX2_spread_74 (by decide) rfl ?_
                refine SW.icmp_eq (q := 79) (tgt := 153) dX2_spread_76 (by decide) rfl (fun c76 => absurd c76 ((nI_n6 (by omega)))) (fun _ => ?_)
                refine SW.aload_n (q := 80) (i := 0) dX2_spread_79 rfl rfl rfl ?_
                refine SW.getR (q := 83) (i := 3) (j := 23) fX2_14 rfl rfl dX2_spread_80 rfl ?_
                refine SW.iload (q := 85) (i := 8) dX2_spread_83 rfl rfl ?_
                refine SW.cF (q := 88) (C_X3_atn (i := 23) (j := 49) (n := 576) rfl rfl (k := v0) rfl (by omega)) vX2_43 (by decide) rfl rfl rfl rfl (Nat.le_of_ble_eq_true rfl) dX2_spread_85 rfl ?_
                refine SW.bipush (q := 90) (v := (-6)) dX2_spread_88 (by decide) rfl ?_
                refine SW.icmp_ne (q := 93) (tgt := 153) dX2_spread_90 (by decide) rfl (fun c90 => absurd ((by rw [e49]; exact m1)) c90) (fun _ => ?_)
                refine SW.aload_n (q := 94) (i := 2) dX2_spread_93 rfl rfl rfl ?_
                refine SW.getR (q := 97) (i := 2) (j := 22) fX2_38 rfl rfl dX2_spread_94 rfl ?_
                refine SW.iload (q := 99) (i := 8) dX2_spread_97 rfl rfl ?_
                refine SW.cF (q := 102) (C_X3_atn (i := 22) (j := 48) (n := 576) rfl rfl (k := v0) rfl (by omega)) vX2_43 (by decide) rfl rfl rfl rfl (Nat.le_of_ble_eq_true rfl) dX2_spread_99 rfl ?_
                refine SW.iconst (q := 103) (v := 2) dX2_spread_102 (by decide) rfl ?_
                refine SW.icmp_ne (q := 106) (tgt := 153) dX2_spread_103 (by decide) rfl (fun c103 => absurd ((by rw [e48]; exact m2)) c103) (fun _ => ?_)
                refine SW.aload_n (q := 107) (i := 2) dX2_spread_106 rfl rfl rfl ?_
                refine SW.getR (q := 110) (i := 2) (j := 15) fX2_59 rfl rfl dX2_spread_107 rfl ?_
                refine SW.iload (q := 112) (i := 8) dX2_spread_110 rfl rfl ?_
                refine SW.cF (q := 115) (C_X3_atn (i := 15) (j := 41) (n := 576) rfl rfl (k := v0) rfl (by omega)) vX2_43 (by decide) rfl rfl rfl rfl (Nat.le_of_ble_eq_true rfl) dX2_spread_112 rfl ?_
                refine SW.aload_n (q := 116) (i := 2) dX2_spread_115 rfl rfl rfl ?_
                refine SW.getR (q := 119) (i := 2) (j := 15) fX2_59 rfl rfl dX2_spread_116 rfl ?_
                refine SW.iload_n (q := 120) (i := 3) dX2_spread_119 rfl rfl rfl ?_
                refine SW.cF (q := 123) (C_X3_atn (i := 15) (j := 41) (n := 576) rfl rfl (k := s) rfl (by omega)) vX2_43 (by decide) rfl rfl rfl rfl (Nat.le_of_ble_eq_true rfl) dX2_spread_120 rfl ?_
                refine SW.icmp_ne (q := 126) (tgt := 153) dX2_spread_123 (by decide) rfl (fun _ => ?_) (fun c123 => absurd c123 ((by rw [e41]; exact m3)))
                refine SW.iinc (q := 156) (v := _ + 1) dX2_spread_153 rfl rfl (by decide) rfl ?_
                refine SW.goto (q := 56) dX2_spread_156 (by decide) ?_
                exact SW.eq (by rw [nI_1]; rfl) rfl rfl (skip no _)
              · refine SW.iload (q := 58) (i := 7) dX2_spread_56 rfl rfl ?_
                refine SW.iconst (q := 59) (v := 4) dX2_spread_58 (by decide) rfl ?_
                refine SW.icmp_ge (q := 62) (tgt := 159) dX2_spread_59 (by decide) rfl (fun c59 => absurd c59 ((nI_ge (a := e) (b := 4) (by omega) (by omega)))) (fun _ => ?_)
                refine SW.aload_n (q := 63) (i := 1) dX2_spread_62 rfl rfl rfl ?_
                refine SW.iload (q := 65) (i := 6) dX2_spread_63 rfl rfl ?_
                refine SW.iload (q := 67) (i := 7) dX2_spread_65 rfl rfl ?_
                refine SW.cF (q := 70) (C_X5_beside hT2 rfl rfl zP (by omega)) vX2_55 (by decide) rfl rfl rfl rfl (Nat.le_of_ble_eq_true rfl) dX2_spread_67 rfl ?_
                rw [hnb, vi]
                refine SW.istore (q := 72) (i := 8) dX2_spread_70 (by decide) rfl ?_
                refine SW.iload (q := 74) (i := 8) dX2_spread_72 rfl rfl ?_
                refine SW.bipush (q := 76) (v := (-6)) dX2_spread_74 (by decide) rfl ?_
                refine SW.icmp_eq (q := 79) (tgt := 153) dX2_spread_76 (by decide) rfl (fun c76 => absurd c76 ((nI_n6 (by omega)))) (fun _ => ?_)
                refine SW.aload_n (q := 80) (i := 0) dX2_spread_79 rfl rfl rfl ?_
                refine SW.getR (q := 83) (i := 3) (j := 23) fX2_14 rfl rfl dX2_spread_80 rfl ?_
                refine SW.iload (q := 85) (i := 8) dX2_spread_83 rfl rfl ?_
                refine SW.cF (q := 88) (C_X3_atn (i := 23) (j := 49) (n := 576) rfl rfl (k := v0) rfl (by omega)) vX2_43 (by decide) rfl rfl rfl rfl (Nat.le_of_ble_eq_true rfl) dX2_spread_85 rfl ?_
                refine SW.bipush (q := 90) (v := (-6)) dX2_spread_88 (by decide) rfl ?_
                refine SW.icmp_ne (q := 93) (tgt := 153) dX2_spread_90 (by decide) rfl (fun c90 => absurd ((by rw [e49]; exact m1)) c90) (fun _ => ?_)
                refine SW.aload_n (q := 94) (i := 2) dX2_spread_93 rfl rfl rfl ?_
                refine SW.getR (q := 97) (i := 2) (j := 22) fX2_38 rfl rfl dX2_spread_94 rfl ?_
                refine SW.iload (q := 99) (i := 8) dX2_spread_97 rfl rfl ?_
                refine SW.cF (q := 102) (C_X3_atn (i := 22) (j := 48) (n := 576) rfl rfl (k := v0) rfl (by omega)) vX2_43 (by decide) rfl rfl rfl rfl (Nat.le_of_ble_eq_true rfl) dX2_spread_99 rfl ?_
                refine SW.iconst (q := 103) (v := 2) dX2_spread_102 (by decide) rfl ?_
                refine SW.icmp_ne (q := 106) (tgt := 153) dX2_spread_103 (by decide) rfl (fun _ => ?_) (fun c103 => absurd c103 ((by rw [e48]; exact m2)))
                refine SW.iinc (q := 156) (v := _ + 1) dX2_spread_153 rfl rfl (by decide) rfl ?_
                refine SW.goto (q := 56) dX2_spread_156 (by decide) ?_
                exact SW.eq (by rw [nI_1]; rfl) rfl rfl (skip no _)
            · refine SW.iload (q := 58) (i := 7) dX2_spread_56 rfl rfl ?_
              refine SW.iconst (q := 59) (v := 4) dX2_spread_58 (by decide) rfl ?_
              refine SW.icmp_ge (q := 62) (tgt := 159) dX2_spread_59 (by decide) rfl (fun c59 => absurd c59 ((nI_ge (a := e) (b := 4) (by omega) (by omega)))) (fun _ => ?_)
              refine SW.aload_n (q := 63) (i := 1) dX2_spread_62 rfl rfl rfl ?_
              refine SW.iload (q := 65) (i := 6) dX2_spread_63 rfl rfl ?_
              refine SW.iload (q := 67) (i := 7) dX2_spread_65 rfl rfl ?_
              refine SW.cF (q := 70) (C_X5_beside hT2 rfl rfl zP (by omega)) vX2_55 (by decide) rfl rfl rfl rfl (Nat.le_of_ble_eq_true rfl) dX2_spread_67 rfl ?_
              rw [hnb, vi]
              refine SW.istore (q := 72) (i := 8) dX2_spread_70 (by decide) rfl ?_
              refine SW.iload (q := 74) (i := 8) dX2_spread_72 rfl rfl ?_
              refine SW.bipush (q := 76) (v := (-6)) dX2_spread_74 (by decide) rfl ?_
              refine SW.icmp_eq (q := 79) (tgt := 153) dX2_spread_76 (by decide) rfl (fun c76 => absurd c76 ((nI_n6 (by omega)))) (fun _ => ?_)
              refine SW.aload_n (q := 80) (i := 0) dX2_spread_79 rfl rfl rfl ?_
              refine SW.getR (q := 83) (i := 3) (j := 23) fX2_14 rfl rfl dX2_spread_80 rfl ?_
              refine SW.iload (q := 85) (i := 8) dX2_spread_83 rfl rfl ?_
              refine SW.cF (q := 88) (C_X3_atn (i := 23) (j := 49) (n := 576) rfl rfl (k := v0) rfl (by omega)) vX2_43 (by decide) rfl rfl rfl rfl (Nat.le_of_ble_eq_true rfl) dX2_spread_85 rfl ?_
              refine SW.bipush (q := 90) (v := (-6)) dX2_spread_88 (by decide) rfl ?_
              refine SW.icmp_ne (q := 93) (tgt := 153) dX2_spread_90 (by decide) rfl (fun _ => ?_) (fun c90 => absurd c90 ((by rw [e49]; exact m1)))
              refine SW.iinc (q := 156) (v := _ + 1) dX2_spread_153 rfl rfl (by decide) rfl ?_
              refine SW.goto (q := 56) dX2_spread_156 (by decide) ?_
              exact SW.eq (by rw [nI_1]; rfl) rfl rfl (skip no _)
  have loop : ∀ (k i : Nat), i + k = n * n → ∀ (Z : Nat → Nat) (F : Nat) (τ : sw_Sg), 0 < F → Z 0 = s → i ≤ F → (∀ i, i < F → lk_c n kd lv s (Z i)) → (∀ i j, i < F → j < F → Z i = Z j → i = j) → F = lk_n (wt_tk Z F) (n * n) → (∀ j, j < F → τ 51 j = nI (Z j)) → fr_ [49, 51] σ τ → (∀ q, (wt_tk Z F q → τ 49 q = nI c) ∧ (¬ wt_tk Z F q → τ 49 q = σ 49 q)) → (∀ j q, j < i → lk_l n kd lv (Z j) q → wt_tk Z F q) → ∀ A B C,
      SW X 2 mX2_spread sw_E0 (sw_Ri (fun v u => fr_ [49, 51] σ u ∧ (∀ q, (lk_c n kd lv s q → u 49 q = nI c) ∧ (¬ lk_c n kd lv s q → u 49 q = σ 49 q)) ∧ v = nI (lk_n (lk_c n kd lv s) (n * n)))) 27 [.ref (sw_ad X 3), .ref (sw_ad X 1), .ref (sw_ad X 2), .int (nI s), .int (nI F), .int (nI i), A, B, C] [] τ := by
    intro k
    induction k with
    | zero =>
      intro i hik Z F τ b1 b2 b3 a2 a3 a4 a5 a6 a7 a8 A B C
      have FK : F ≤ n * n := inj_le (fun i hi => lk_lt hs (a2 i hi)) a3
      obtain rfl : i = F := by omega
      have set : ∀ q, wt_tk Z i q ↔ lk_c n kd lv s q := fun q => ⟨fun ⟨j, j1, j2⟩ => by rw [← j2]; exact a2 j j1, fun z => lk_ind (S := wt_tk Z i) (fun _ => ⟨0, b1, b2⟩) (fun u q _ ⟨j, j1, j2⟩ hl => a8 j q j1 (by rw [j2]; exact hl)) z⟩
      refine SW.iload (q := 29) (i := 5) dX2_spread_27 rfl rfl ?_
      refine SW.iload (q := 31) (i := 4) dX2_spread_29 rfl rfl ?_
      refine SW.icmp_ge (q := 34) (tgt := 165) dX2_spread_31 (by decide) rfl (fun _ => ?_) (fun c31 => absurd ((Int32.le_refl _)) c31)
      refine SW.iload (q := 167) (i := 4) dX2_spread_165 rfl rfl ?_
      refine SW.iretR rfl rfl dX2_spread_167 ?_
      exact ⟨a6, fun q => ⟨fun z => (a7 q).1 ((set q).mpr z), fun z => (a7 q).2 (fun w => z ((set q).mp w))⟩, by rw [lk_n_c (n * n) (fun q _ => (set q).symm), ← a4]⟩
    | succ k ih =>
      intro i hik Z F τ b1 b2 b3 a2 a3 a4 a5 a6 a7 a8 A B C
      have FK : F ≤ n * n := inj_le (fun i hi => lk_lt hs (a2 i hi)) a3
      by_cases hiF : i = F
      · subst hiF
        have set : ∀ q, wt_tk Z i q ↔ lk_c n kd lv s q := fun q => ⟨fun ⟨j, j1, j2⟩ => by rw [← j2]; exact a2 j j1, fun z => lk_ind (S := wt_tk Z i) (fun _ => ⟨0, b1, b2⟩) (fun u q _ ⟨j, j1, j2⟩ hl => a8 j q j1 (by rw [j2]; exact hl)) z⟩
        refine SW.iload (q := 29) (i := 5) dX2_spread_27 rfl rfl ?_
        refine SW.iload (q := 31) (i := 4) dX2_spread_29 rfl rfl ?_
        refine SW.icmp_ge (q := 34) (tgt := 165) dX2_spread_31 (by decide) rfl (fun _ => ?_) (fun c31 => absurd ((Int32.le_refl _)) c31)
        refine SW.iload (q := 167) (i := 4) dX2_spread_165 rfl rfl ?_
        refine SW.iretR rfl rfl dX2_spread_167 ?_
        exact ⟨a6, fun q => ⟨fun z => (a7 q).1 ((set q).mpr z), fun z => (a7 q).2 (fun w => z ((set q).mp w))⟩, by rw [lk_n_c (n * n) (fun q _ => (set q).symm), ← a4]⟩
      · refine SW.iload (q := 29) (i := 5) dX2_spread_27 rfl rfl ?_
        refine SW.iload (q := 31) (i := 4) dX2_spread_29 rfl rfl ?_
        refine SW.icmp_ge (q := 34) (tgt := 165) dX2_spread_31 (by decide) rfl (fun c31 => absurd c31 ((nI_ge (by omega) (by omega)))) (fun _ => ?_)
        refine SW.iload (q := 36) (i := 5) dX2_spread_34 rfl rfl ?_
        refine SW.sipush (q := 39) (v := 576) dX2_spread_36 (by decide) rfl ?_
        refine SW.icmp_ge (q := 42) (tgt := 165) dX2_spread_39 (by decide) rfl (fun c39 => absurd c39 ((nI_ge (b := 576) (by omega) (by omega)))) (fun _ => ?_)
        refine SW.aload_n (q := 43) (i := 0) dX2_spread_42 rfl rfl rfl ?_
        refine SW.getR (q := 46) (i := 3) (j := 25) fX2_23 rfl rfl dX2_spread_43 rfl ?_
        refine SW.iload (q := 48) (i := 5) dX2_spread_46 rfl rfl ?_
        refine SW.cF (q := 51) (C_X3_atn (i := 25) (j := 51) (n := 576) rfl rfl (k := i) rfl (by omega)) vX2_43 (by decide) rfl rfl rfl rfl (Nat.le_of_ble_eq_true rfl) dX2_spread_48 rfl ?_
        rw [a5 i (by omega)]
        refine SW.istore (q := 53) (i := 6) dX2_spread_51 (by decide) rfl ?_
        refine SW.iconst (q := 54) (v := 0) dX2_spread_53 (by decide) rfl ?_
        refine SW.istore (q := 56) (i := 7) dX2_spread_54 (by decide) rfl ?_
        refine inner i Z F (by omega) a2 4 0 rfl Z F τ (Nat.le_refl _) (fun _ _ => rfl) a2 a3 a4 a5 a6 a7 (fun e' q he' => absurd he' (Nat.not_lt_zero _)) _ (fun Z' F' τ' c0 c1 c2 c3 c4 c5 c6 c7 c8 A B C => ?_)
        refine ih (i + 1) (by omega) Z' F' τ' (by omega) (by rw [c1 0 b1]; exact b2) (by omega) c2 c3 c4 c5 c6 c7 (fun j q hj hl => ?_) A B C
        rw [c1 j (by omega)] at hl
        by_cases z : j = i
        · subst z; exact c8 q hl
        · obtain ⟨i', i1, i2⟩ := a8 j q (by omega) hl
          exact ⟨i', by omega, by rw [c1 i' i1]; exact i2⟩
  refine SW.aload_n (q := 1) (i := 0) dX2_spread_0 rfl rfl rfl ?_
  refine SW.getR (q := 4) (i := 3) (j := 23) fX2_14 rfl rfl dX2_spread_1 rfl ?_
  refine SW.iload_n (q := 5) (i := 3) dX2_spread_4 rfl rfl rfl ?_
  refine SW.aload_n (q := 6) (i := 0) dX2_spread_5 rfl rfl rfl ?_
  refine SW.getI (q := 9) (i := 3) fX2_26 rfl rfl dX2_spread_6 rfl ?_
  refine SW.cG (q := 12) (C_X3_putn (i := 23) (j := 49) (n := 576) rfl rfl (k := s) rfl (by omega)) vX2_51 (by decide) rfl rfl rfl rfl (Nat.le_of_ble_eq_true rfl) dX2_spread_9 rfl ?_
  refine SW.aload_n (q := 13) (i := 0) dX2_spread_12 rfl rfl rfl ?_
  refine SW.getR (q := 16) (i := 3) (j := 25) fX2_23 rfl rfl dX2_spread_13 rfl ?_
  refine SW.iconst (q := 17) (v := 0) dX2_spread_16 (by decide) rfl ?_
  refine SW.iload_n (q := 18) (i := 3) dX2_spread_17 rfl rfl rfl ?_
  refine SW.cG (q := 21) (C_X3_putn (i := 25) (j := 51) (n := 576) rfl rfl (k := 0) rfl (by decide)) vX2_51 (by decide) rfl rfl rfl rfl (Nat.le_of_ble_eq_true rfl) dX2_spread_18 rfl ?_
  refine SW.iconst (q := 22) (v := 1) dX2_spread_21 (by decide) rfl ?_
  refine SW.istore (q := 24) (i := 4) dX2_spread_22 (by decide) rfl ?_
  refine SW.iconst (q := 25) (v := 0) dX2_spread_24 (by decide) rfl ?_
  refine SW.istore (q := 27) (i := 5) dX2_spread_25 (by decide) rfl ?_
  refine loop (n * n) 0 (by omega) (fun _ => s) 1 _ (by omega) rfl (by omega) (fun _ _ => lk_rf hks) (fun i j hi hj _ => by omega) ?_ (fun j hj => ?_) (fr_up (fr_up fr_rf (by decide)) (by decide)) (fun q => ⟨fun hq => ?_, fun hq => ?_⟩) (fun j q hj => absurd hj (Nat.not_lt_zero _)) _ _ _
  · rw [lk_n_add (P := fun _ => False) (b := s) (fun z => z) (fun x => ⟨fun ⟨i, i1, i2⟩ => Or.inr i2.symm, fun z => z.elim False.elim (fun e => ⟨0, by omega, e.symm⟩)⟩) (n * n) hs, lk_n_0 (fun _ z => z)]
  · obtain rfl : j = 0 := by omega
    rw [sw_i1]
  · obtain ⟨i, i1, i2⟩ := hq
    have i2 : s = q := i2
    subst i2
    rw [sw_un (by decide), sw_i1]; exact hc
  · rw [sw_un (by decide), sw_o1 (fun z => hq ⟨0, by omega, z.symm⟩)]
end POOLS
