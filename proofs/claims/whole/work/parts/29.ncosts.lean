/-! COSTS in the class -/
def nt_lab (n t : Nat) (d : Nat → Option Nat) (τ : sw_Sg) : Prop := ∀ v, v < n * n → τ 54 (576 * t + v) = gr_v (d v)
def nt_Hp (n : Nat) (S : Nat → Prop) (d : Nat → Option Nat) (r M c : Nat) (τ : sw_Sg) : Prop :=
  τ 6 1 = nI c ∧ hp_ok (τ 58) c ∧ (∀ z, hp_in (τ 58) c z → ∃ ρ v c0, ρ ≤ M ∧ v < n * n ∧ z = wl_key ρ v ∧ d v = some c0 ∧ c0 ≤ ρ ∧ r ≤ ρ) ∧ ∀ v c0, d v = some c0 → ¬ S v → hp_in (τ 58) c (wl_key c0 v)
def nt_blk (t : Nat) (σ u : sw_Sg) : Prop := ∀ k, (k < 576 * t ∨ 576 * t + 576 ≤ k) → u 54 k = σ 54 k
section NCOSTS
variable {X : sw_X} {σ : sw_Sg} {x y v w st : Int32} {n p q br r s t M c : Nat} {h : Nat → Nat} {kd : Nat → Int32} {S : Nat → Prop} {d : Nat → Option Nat}
theorem C_X1_spreadCosts (hG : ww_G n h σ) (hkd : σ 48 = kd) (hb : σ 5 4 = nI br) (b100 : br ≤ 100) (ht6 : t < 6) (hC : nt_C n h kd br s S d r M) (hqS : S q) (hq : d q = some r) (hlab : nt_lab n t d σ) (hH : nt_Hp n S d r M c σ) (hc : c + 4 ≤ 2308) (hM : nt_cl n h kd br d q ∨ r + 510 ≤ M) (hM2 : M ≤ 300000) :
    sw_Mv X 2 mX1_spreadCosts [.ref (sw_ad X 5), .ref (sw_ad X 1), .ref (sw_ad X 2), .ref (sw_ad X 6), .int (nI (576 * t)), .int (nI q)] σ (fun u => fr_ [6, 54, 58] σ u ∧ nt_blk t σ u ∧ ∃ d' c', nt_lab n t d' u ∧ nt_C n h kd br s S d' r M ∧ nt_Hp n S d' r M c' u ∧ nt_dn d d' ∧ (∀ v, S v → d' v = d v) ∧ nt_cl n h kd br d' q ∧ c' ≤ c + 4 ∧ (nt_cl n h kd br d q → c' = c)) := by
  have n24 : n ≤ 24 := hG.1.2.1
  have h576 := gr_576 n24
  have qP : q < n * n := (hC.2.1 q r hq).1
  have rM : r ≤ M := (hC.2.1 q r hq).2.1
  refine sw_ME.ofF (by decide +kernel) rfl (Nat.le_of_ble_eq_true rfl) rfl ?_
  have loop : ∀ (k e : Nat), e + k = 4 → ∀ (B C E : Value) (τ : sw_Sg) (d1 : Nat → Option Nat) (c1 : Nat), fr_ [6, 54, 58] σ τ → nt_blk t σ τ → nt_lab n t d1 τ → nt_C n h kd br s S d1 r M → nt_Hp n S d1 r M c1 τ → nt_dn d d1 → (∀ v, S v → d1 v = d v) →
      (∀ e' v, e' < e → gr_nb n q e' = some v → nt_pass kd v → ∃ c', d1 v = some c' ∧ c' ≤ r + nt_st h kd br q v) → c1 ≤ c + e → (nt_cl n h kd br d q → c1 = c ∧ d1 = d) →
      SW X 2 mX1_spreadCosts sw_E0 (sw_Rv (fun u => fr_ [6, 54, 58] σ u ∧ nt_blk t σ u ∧ ∃ d' c', nt_lab n t d' u ∧ nt_C n h kd br s S d' r M ∧ nt_Hp n S d' r M c' u ∧ nt_dn d d' ∧ (∀ v, S v → d' v = d v) ∧ nt_cl n h kd br d' q ∧ c' ≤ c + 4 ∧ (nt_cl n h kd br d q → c' = c))) 3 [.ref (sw_ad X 5), .ref (sw_ad X 1), .ref (sw_ad X 2), .ref (sw_ad X 6), .int (nI (576 * t)), .int (nI q), .int (nI e), B, C, E] [] τ := by
    intro k
    induction k with
    | zero =>
      intro e he B C E τ d1 c1 hf hbk hl1 hC1 hH1 hdn hSd hcl hc1 hno
      obtain rfl : e = 4 := by omega
      refine SW.iload (q := 5) (i := 6) dX1_spreadCosts_3 rfl rfl ?_
      refine SW.iconst (q := 6) (v := 4) dX1_spreadCosts_5 (by decide) rfl ?_
      refine SW.icmp_ge (q := 9) (tgt := 116) dX1_spreadCosts_6 (by decide) rfl (fun _ => ?_) (fun c6 => absurd ((by decide)) c6)
      refine SW.vretR rfl dX1_spreadCosts_116 ?_
      refine ⟨hf, hbk, d1, c1, hl1, hC1, hH1, hdn, hSd, fun c0 v e0 ha hp => ?_, hc1, fun z => (hno z).1⟩
      obtain ⟨e', e4, ea⟩ := ha
      rw [hSd q hqS, hq] at e0
      cases e0
      exact hcl e' v e4 ea hp
    | succ k ih =>
      intro e he B C E τ d1 c1 hf hbk hl1 hC1 hH1 hdn hSd hcl hc1 hno
      have hG1 := hG.fr hf (by decide) (by decide) (by decide) (by decide)
      have e48 : τ 48 = kd := by rw [hf 48 (by decide)]; exact hkd
      have eb : τ 5 4 = nI br := by rw [hf 5 (by decide)]; exact hb
      have dq : d1 q = some r := by rw [hSd q hqS]; exact hq
      have lq : τ 54 (576 * t + q) = nI r := by rw [hl1 q qP, dq]; rfl
      have skip : (∀ v, gr_nb n q e = some v → nt_pass kd v → ∃ c', d1 v = some c' ∧ c' ≤ r + nt_st h kd br q v) → ∀ B C E, SW X 2 mX1_spreadCosts sw_E0 (sw_Rv (fun u => fr_ [6, 54, 58] σ u ∧ nt_blk t σ u ∧ ∃ d' c', nt_lab n t d' u ∧ nt_C n h kd br s S d' r M ∧ nt_Hp n S d' r M c' u ∧ nt_dn d d' ∧ (∀ v, S v → d' v = d v) ∧ nt_cl n h kd br d' q ∧ c' ≤ c + 4 ∧ (nt_cl n h kd br d q → c' = c))) 3 [.ref (sw_ad X 5), .ref (sw_ad X 1), .ref (sw_ad X 2), .ref (sw_ad X 6), .int (nI (576 * t)), .int (nI q), .int (nI (e + 1)), B, C, E] [] τ := by
        intro hv B C E
        refine ih (e + 1) (by omega) B C E τ d1 c1 hf hbk hl1 hC1 hH1 hdn hSd (fun e' v he' ea hp => ?_) (by omega) hno
        by_cases z : e' = e
        · subst z; exact hv v ea hp
        · exact hcl e' v (by omega) ea hp
      cases hnb : gr_nb n q e with
      | none =>
        refine SW.iload (q := 5) (i := 6) dX1_spreadCosts_3 rfl rfl ?_
        refine SW.iconst (q := 6) (v := 4) dX1_spreadCosts_5 (by decide) rfl ?_
        refine SW.icmp_ge (q := 9) (tgt := 116) dX1_spreadCosts_6 (by decide) rfl (fun c6 => absurd c6 ((nI_ge (a := e) (b := 4) (by omega) (by omega)))) (fun _ => ?_)
        refine SW.aload_n (q := 10) (i := 1) dX1_spreadCosts_9 rfl rfl rfl ?_
        refine SW.iload (q := 12) (i := 5) dX1_spreadCosts_10 rfl rfl ?_
        refine SW.iload (q := 14) (i := 6) dX1_spreadCosts_12 rfl rfl ?_
        refine SW.cF (q := 17) (C_X5_beside hG1.1 rfl rfl qP (by omega)) vX1_100 (by decide) rfl rfl rfl rfl (Nat.le_of_ble_eq_true rfl) dX1_spreadCosts_14 rfl ?_
        rw [hnb]
        refine SW.istore (q := 19) (i := 7) dX1_spreadCosts_17 (by decide) rfl ?_
        refine SW.iload (q := 21) (i := 7) dX1_spreadCosts_19 rfl rfl ?_
        refine SW.bipush (q := 23) (v := (-6)) dX1_spreadCosts_21 (by decide) rfl ?_
        refine SW.icmp_eq (q := 26) (tgt := 110) dX1_spreadCosts_23 (by decide) rfl (fun _ => ?_) (fun c23 => absurd (rfl) c23)
        refine SW.iinc (q := 113) (v := _ + 1) dX1_spreadCosts_110 rfl rfl (by decide) rfl ?_
        refine SW.goto (q := 3) dX1_spreadCosts_113 (by decide) ?_
        exact SW.eq (by rw [nI_1]; rfl) rfl rfl (skip (fun v z => by rw [hnb] at z; cases z) _ _ _)
      | some v0 =>
        have vP := (gr_nb_lt qP hnb).1
        have vi : gr_v (some v0) = nI v0 := rfl
        have hadj : wl_adj n q v0 := ⟨e, by omega, hnb⟩
        by_cases hp : nt_pass kd v0
        · have hpd : decide (τ 48 v0 = 4 ∨ τ 48 v0 = 8) = true := decide_eq_true (by rw [e48]; exact hp)
          have hst := nt_st_le (ht := h) (kd := kd) (br := br) (p := q) (q := v0) (hG.2 q qP).2 (hG.2 v0 vP).2 b100
          have cst : nI r + nI (nt_st h (τ 48) br q v0) = nI (r + nt_st h kd br q v0) := by rw [nI_add, e48]
          have lv0 := hl1 v0 vP
          have idx : nI (576 * t) + nI v0 = nI (576 * t + v0) := nI_add _ _
          -- a label is bettered
          have upd : (∀ c0, d1 v0 = some c0 → r + nt_st h kd br q v0 < c0) → ∀ (B C E : Value) (u : sw_Sg), fr_ [6, 58] (sw_up τ 54 (576 * t + v0) (nI (r + nt_st h kd br q v0))) u → u 6 1 = nI (c1 + 1) → hp_ok (u 58) (c1 + 1) → (∀ z, hp_in (u 58) (c1 + 1) z ↔ hp_in (τ 58) c1 z ∨ z = wl_key (r + nt_st h kd br q v0) v0) →
              SW X 2 mX1_spreadCosts sw_E0 (sw_Rv (fun u => fr_ [6, 54, 58] σ u ∧ nt_blk t σ u ∧ ∃ d' c', nt_lab n t d' u ∧ nt_C n h kd br s S d' r M ∧ nt_Hp n S d' r M c' u ∧ nt_dn d d' ∧ (∀ v, S v → d' v = d v) ∧ nt_cl n h kd br d' q ∧ c' ≤ c + 4 ∧ (nt_cl n h kd br d q → c' = c))) 3 [.ref (sw_ad X 5), .ref (sw_ad X 1), .ref (sw_ad X 2), .ref (sw_ad X 6), .int (nI (576 * t)), .int (nI q), .int (nI (e + 1)), B, C, E] [] u := by
            intro hbet B C E u g1 g2 g3 g4
            have notcl : ¬ nt_cl n h kd br d q := by
              intro z
              obtain ⟨-, rfl⟩ := hno z
              obtain ⟨c', z1, z2⟩ := z r v0 hq hadj hp
              have := hbet c' z1
              omega
            have hM3 : r + nt_st h kd br q v0 ≤ M := by
              rcases hM with z | z
              · exact absurd z notcl
              · omega
            obtain ⟨s1, s2, s3, s4⟩ := nt_relax hC1 dq hadj hp hM3 hbet
            have f54 : fr_ [6, 54, 58] σ u := fr_tr (fr_up hf (by decide)) g1 (by decide)
            refine ih (e + 1) (by omega) B C E u _ (c1 + 1) f54 (fun k hk => ?_) (fun v hv => ?_) s2 ⟨g2, g3, fun z hz => ?_, fun v c0 e0 hv => ?_⟩ (fun v c0 e0 => ?_) (fun v hv => by rw [s4 v hv]; exact hSd v hv) (fun e' v he' ea hpv => ?_) (by omega) (fun z => absurd z notcl)
            · rw [g1 54 (by decide), sw_o1 (by omega)]; exact hbk k hk
            · rw [g1 54 (by decide)]
              by_cases z : v = v0
              · subst z; rw [sw_i1, up_i]; rfl
              · rw [sw_o1 (by omega), up_o z]; exact hl1 v hv
            · rcases (g4 z).mp hz with hz | rfl
              · obtain ⟨ρ, v, c0, a1, a2, a3, a4, a5, a6⟩ := hH1.2.2.1 z hz
                by_cases zv : v = v0
                · subst zv
                  exact ⟨ρ, v, _, a1, a2, a3, up_i, Nat.le_trans (Nat.le_of_lt (hbet c0 a4)) a5, a6⟩
                · exact ⟨ρ, v, c0, a1, a2, a3, by rw [up_o zv]; exact a4, a5, a6⟩
              · exact ⟨_, v0, _, hM3, vP, rfl, up_i, Nat.le_refl _, by omega⟩
            · by_cases zv : v = v0
              · subst zv
                rw [up_i] at e0; cases e0
                exact (g4 _).mpr (Or.inr rfl)
              · rw [up_o zv] at e0
                exact (g4 _).mpr (Or.inl (hH1.2.2.2 v c0 e0 hv))
            · obtain ⟨c2, z1, z2⟩ := hdn v c0 e0
              obtain ⟨c3, z3, z4⟩ := s3 v c2 z1
              exact ⟨c3, z3, by omega⟩
            · by_cases ze : e' = e
              · subst ze
                rw [hnb] at ea; cases ea
                exact ⟨_, up_i, Nat.le_refl _⟩
              · obtain ⟨c2, z1, z2⟩ := hcl e' v (by omega) ea hpv
                obtain ⟨c3, z3, z4⟩ := s3 v c2 z1
                exact ⟨c3, z3, by omega⟩
          cases hd1 : d1 v0 with
          | none =>
            have lv1 : τ 54 (576 * t + v0) = -6 := by rw [lv0, hd1]; rfl
            refine SW.iload (q := 5) (i := 6) dX1_spreadCosts_3 rfl rfl ?_
            refine SW.iconst (q := 6) (v := 4) dX1_spreadCosts_5 (by decide) rfl ?_
            refine SW.icmp_ge (q := 9) (tgt := 116) dX1_spreadCosts_6 (by decide) rfl (fun c6 => absurd c6 ((nI_ge (a := e) (b := 4) (by omega) (by omega)))) (fun _ => ?_)
            refine SW.aload_n (q := 10) (i := 1) dX1_spreadCosts_9 rfl rfl rfl ?_
            refine SW.iload (q := 12) (i := 5) dX1_spreadCosts_10 rfl rfl ?_
            refine SW.iload (q := 14) (i := 6) dX1_spreadCosts_12 rfl rfl ?_
            refine SW.cF (q := 17) (C_X5_beside hG1.1 rfl rfl qP (by omega)) vX1_100 (by decide) rfl rfl rfl rfl (Nat.le_of_ble_eq_true rfl) dX1_spreadCosts_14 rfl ?_
            rw [hnb, vi]
            refine SW.istore (q := 19) (i := 7) dX1_spreadCosts_17 (by decide) rfl ?_
            refine SW.iload (q := 21) (i := 7) dX1_spreadCosts_19 rfl rfl ?_
            refine SW.bipush (q := 23) (v := (-6)) dX1_spreadCosts_21 (by decide) rfl ?_
            refine SW.icmp_eq (q := 26) (tgt := 110) dX1_spreadCosts_23 (by decide) rfl (fun c23 => absurd c23 ((nI_n6 (by omega)))) (fun _ => ?_)
            refine SW.aload_n (q := 27) (i := 2) dX1_spreadCosts_26 rfl rfl rfl ?_
            refine SW.iload (q := 29) (i := 7) dX1_spreadCosts_27 rfl rfl ?_
            refine SW.cF (q := 32) (C_X6_isPassable rfl (by omega)) vX1_104 (by decide) rfl rfl rfl rfl (Nat.le_of_ble_eq_true rfl) dX1_spreadCosts_29 rfl ?_
            rw [hpd]
            refine SW.if_eq (q := 35) (tgt := 110) dX1_spreadCosts_32 (by decide) rfl (fun c32 => absurd c32 ((by decide))) (fun _ => ?_)
            refine SW.aload_n (q := 36) (i := 0) dX1_spreadCosts_35 rfl rfl rfl ?_
            refine SW.getR (q := 39) (i := 5) (j := 28) fX1_14 rfl rfl dX1_spreadCosts_36 rfl ?_
            refine SW.iload (q := 41) (i := 4) dX1_spreadCosts_39 rfl rfl ?_
            refine SW.iload (q := 43) (i := 5) dX1_spreadCosts_41 rfl rfl ?_
            refine SW.iadd (q := 44) dX1_spreadCosts_43 rfl ?_
            refine SW.cF (q := 47) (C_X3_atn (i := 28) (j := 54) (n := 3456) rfl rfl (k := 576 * t + q) (nI_add _ _) (by omega)) vX1_50 (by decide) rfl rfl rfl rfl (Nat.le_of_ble_eq_true rfl) dX1_spreadCosts_44 rfl ?_
            rw [lq]
            refine SW.aload_n (q := 48) (i := 0) dX1_spreadCosts_47 rfl rfl rfl ?_
            refine SW.aload_n (q := 49) (i := 1) dX1_spreadCosts_48 rfl rfl rfl ?_
            refine SW.aload_n (q := 50) (i := 2) dX1_spreadCosts_49 rfl rfl rfl ?_
            refine SW.iload (q := 52) (i := 5) dX1_spreadCosts_50 rfl rfl ?_
            refine SW.iload (q := 54) (i := 7) dX1_spreadCosts_52 rfl rfl ?_
            refine SW.cF (q := 57) (C_X1_stepCost (ht := h) rfl rfl (by omega) (by omega) (hG1.2 q qP) (hG1.2 v0 vP) eb) vX1_110 (by decide) rfl rfl rfl rfl (Nat.le_of_ble_eq_true rfl) dX1_spreadCosts_54 rfl ?_
            refine SW.iadd (q := 58) dX1_spreadCosts_57 rfl ?_
            rw [cst]
            refine SW.istore (q := 60) (i := 8) dX1_spreadCosts_58 (by decide) rfl ?_
            refine SW.aload_n (q := 61) (i := 0) dX1_spreadCosts_60 rfl rfl rfl ?_
            refine SW.getR (q := 64) (i := 5) (j := 28) fX1_14 rfl rfl dX1_spreadCosts_61 rfl ?_
            refine SW.iload (q := 66) (i := 4) dX1_spreadCosts_64 rfl rfl ?_
            refine SW.iload (q := 68) (i := 7) dX1_spreadCosts_66 rfl rfl ?_
            refine SW.iadd (q := 69) dX1_spreadCosts_68 rfl ?_
            refine SW.cF (q := 72) (C_X3_atn (i := 28) (j := 54) (n := 3456) rfl rfl (k := 576 * t + v0) idx (by omega)) vX1_50 (by decide) rfl rfl rfl rfl (Nat.le_of_ble_eq_true rfl) dX1_spreadCosts_69 rfl ?_
            refine SW.istore (q := 74) (i := 9) dX1_spreadCosts_72 (by decide) rfl ?_
            refine SW.iload (q := 76) (i := 9) dX1_spreadCosts_74 rfl rfl ?_
            refine SW.bipush (q := 78) (v := (-6)) dX1_spreadCosts_76 (by decide) rfl ?_
            refine SW.icmp_eq (q := 81) (tgt := 88) dX1_spreadCosts_78 (by decide) rfl (fun _ => ?_) (fun c78 => absurd (lv1) c78)
            refine SW.aload_n (q := 89) (i := 0) dX1_spreadCosts_88 rfl rfl rfl ?_
            refine SW.getR (q := 92) (i := 5) (j := 28) fX1_14 rfl rfl dX1_spreadCosts_89 rfl ?_
            refine SW.iload (q := 94) (i := 4) dX1_spreadCosts_92 rfl rfl ?_
            refine SW.iload (q := 96) (i := 7) dX1_spreadCosts_94 rfl rfl ?_
            refine SW.iadd (q := 97) dX1_spreadCosts_96 rfl ?_
            refine SW.iload (q := 99) (i := 8) dX1_spreadCosts_97 rfl rfl ?_
            refine SW.cG (q := 102) (C_X3_putn (i := 28) (j := 54) (n := 3456) rfl rfl (k := 576 * t + v0) idx (by omega)) vX1_61 (by decide) rfl rfl rfl rfl (Nat.le_of_ble_eq_true rfl) dX1_spreadCosts_99 rfl ?_
            refine SW.aload_n (q := 103) (i := 3) dX1_spreadCosts_102 rfl rfl rfl ?_
            refine SW.iload (q := 105) (i := 8) dX1_spreadCosts_103 rfl rfl ?_
            refine SW.iload (q := 107) (i := 7) dX1_spreadCosts_105 rfl rfl ?_
            refine SW.cV (q := 110) (C_X0_insert (c := c1) (by rw [sw_un (by decide)]; exact hH1.1) (by omega) (by rw [sw_un (by decide)]; exact hH1.2.1)) vX1_83 (by decide) rfl rfl rfl rfl (Nat.le_of_ble_eq_true rfl) dX1_spreadCosts_107 rfl (fun u107 r107 => ?_)
            obtain ⟨s1, s2, s3, s4⟩ := r107
            rw [hp_key_e (by omega) (by omega), sw_un (by decide)] at s4
            refine SW.iinc (q := 113) (v := _ + 1) dX1_spreadCosts_110 rfl rfl (by decide) rfl ?_
            refine SW.goto (q := 3) dX1_spreadCosts_113 (by decide) ?_
            exact SW.eq (by rw [nI_1]; rfl) rfl rfl (upd (fun c0 z => by rw [hd1] at z; cases z) _ _ _ u107 s1 s2 s3 s4)
          | some c0 =>
            have lv1 : τ 54 (576 * t + v0) = nI c0 := by rw [lv0, hd1]; rfl
            have c0M := (hC1.2.1 v0 c0 hd1).2.1
            by_cases hlt : r + nt_st h kd br q v0 < c0
            · refine SW.iload (q := 5) (i := 6) dX1_spreadCosts_3 rfl rfl ?_
              refine SW.iconst (q := 6) (v := 4) dX1_spreadCosts_5 (by decide) rfl ?_
              refine SW.icmp_ge (q := 9) (tgt := 116) dX1_spreadCosts_6 (by decide) rfl (fun c6 => absurd c6 ((nI_ge (a := e) (b := 4) (by omega) (by omega)))) (fun _ => ?_)
              refine SW.aload_n (q := 10) (i := 1) dX1_spreadCosts_9 rfl rfl rfl ?_
              refine SW.iload (q := 12) (i := 5) dX1_spreadCosts_10 rfl rfl ?_
              refine SW.iload (q := 14) (i := 6) dX1_spreadCosts_12 rfl rfl ?_
              refine SW.cF (q := 17) (C_X5_beside hG1.1 rfl rfl qP (by omega)) vX1_100 (by decide) rfl rfl rfl rfl (Nat.le_of_ble_eq_true rfl) dX1_spreadCosts_14 rfl ?_
              rw [hnb, vi]
              refine SW.istore (q := 19) (i := 7) dX1_spreadCosts_17 (by decide) rfl ?_
              refine SW.iload (q := 21) (i := 7) dX1_spreadCosts_19 rfl rfl ?_
              refine SW.bipush (q := 23) (v := (-6)) dX1_spreadCosts_21 (by decide) rfl ?_
              refine SW.icmp_eq (q := 26) (tgt := 110) dX1_spreadCosts_23 (by decide) rfl (fun c23 => absurd c23 ((nI_n6 (by omega)))) (fun _ => ?_)
              refine SW.aload_n (q := 27) (i := 2) dX1_spreadCosts_26 rfl rfl rfl ?_
              refine SW.iload (q := 29) (i := 7) dX1_spreadCosts_27 rfl rfl ?_
              refine SW.cF (q := 32) (C_X6_isPassable rfl (by omega)) vX1_104 (by decide) rfl rfl rfl rfl (Nat.le_of_ble_eq_true rfl) dX1_spreadCosts_29 rfl ?_
              rw [hpd]
              refine SW.if_eq (q := 35) (tgt := 110) dX1_spreadCosts_32 (by decide) rfl (fun c32 => absurd c32 ((by decide))) (fun _ => ?_)
              refine SW.aload_n (q := 36) (i := 0) dX1_spreadCosts_35 rfl rfl rfl ?_
              refine SW.getR (q := 39) (i := 5) (j := 28) fX1_14 rfl rfl dX1_spreadCosts_36 rfl ?_
              refine SW.iload (q := 41) (i := 4) dX1_spreadCosts_39 rfl rfl ?_
              refine SW.iload (q := 43) (i := 5) dX1_spreadCosts_41 rfl rfl ?_
              refine SW.iadd (q := 44) dX1_spreadCosts_43 rfl ?_
              refine SW.cF (q := 47) (C_X3_atn (i := 28) (j := 54) (n := 3456) rfl rfl (k := 576 * t + q) (nI_add _ _) (by omega)) vX1_50 (by decide) rfl rfl rfl rfl (Nat.le_of_ble_eq_true rfl) dX1_spreadCosts_44 rfl ?_
              rw [lq]
              refine SW.aload_n (q := 48) (i := 0) dX1_spreadCosts_47 rfl rfl rfl ?_
              refine SW.aload_n (q := 49) (i := 1) dX1_spreadCosts_48 rfl rfl rfl ?_
              refine SW.aload_n (q := 50) (i := 2) dX1_spreadCosts_49 rfl rfl rfl ?_
              refine SW.iload (q := 52) (i := 5) dX1_spreadCosts_50 rfl rfl ?_
              refine SW.iload (q := 54) (i := 7) dX1_spreadCosts_52 rfl rfl ?_
              refine SW.cF (q := 57) (C_X1_stepCost (ht := h) rfl rfl (by omega) (by omega) (hG1.2 q qP) (hG1.2 v0 vP) eb) vX1_110 (by decide) rfl rfl rfl rfl (Nat.le_of_ble_eq_true rfl) dX1_spreadCosts_54 rfl ?_
              refine SW.iadd (q := 58) dX1_spreadCosts_57 rfl ?_
              rw [cst]
              refine SW.istore (q := 60) (i := 8) dX1_spreadCosts_58 (by decide) rfl ?_
              refine SW.aload_n (q := 61) (i := 0) dX1_spreadCosts_60 rfl rfl rfl ?_
              refine SW.getR (q := 64) (i := 5) (j := 28) fX1_14 rfl rfl dX1_spreadCosts_61 rfl ?_
              refine SW.iload (q := 66) (i := 4) dX1_spreadCosts_64 rfl rfl ?_
              refine SW.iload (q := 68) (i := 7) dX1_spreadCosts_66 rfl rfl ?_
              refine SW.iadd (q := 69) dX1_spreadCosts_68 rfl ?_
              refine SW.cF (q := 72) (C_X3_atn (i := 28) (j := 54) (n := 3456) rfl rfl (k := 576 * t + v0) idx (by omega)) vX1_50 (by decide) rfl rfl rfl rfl (Nat.le_of_ble_eq_true rfl) dX1_spreadCosts_69 rfl ?_
              refine SW.istore (q := 74) (i := 9) dX1_spreadCosts_72 (by decide) rfl ?_
              refine SW.iload (q := 76) (i := 9) dX1_spreadCosts_74 rfl rfl ?_
              refine SW.bipush (q := 78) (v := (-6)) dX1_spreadCosts_76 (by decide) rfl ?_
              refine SW.icmp_eq (q := 81) (tgt := 88) dX1_spreadCosts_78 (by decide) rfl (fun c78 => absurd c78 ((by rw [lv1]; exact nI_n6 (by omega)))) (fun _ => ?_)
              refine SW.iload (q := 83) (i := 8) dX1_spreadCosts_81 rfl rfl ?_
              refine SW.iload (q := 85) (i := 9) dX1_spreadCosts_83 rfl rfl ?_
              refine SW.icmp_ge (q := 88) (tgt := 110) dX1_spreadCosts_85 (by decide) rfl (fun c85 => absurd c85 ((by rw [lv1]; exact nI_ge hlt (by omega)))) (fun _ => ?_)
              refine SW.aload_n (q := 89) (i := 0) dX1_spreadCosts_88 rfl rfl rfl ?_
              refine SW.getR (q := 92) (i := 5) (j := 28) fX1_14 rfl rfl dX1_spreadCosts_89 rfl ?_
              refine SW.iload (q := 94) (i := 4) dX1_spreadCosts_92 rfl rfl ?_
              refine SW.iload (q := 96) (i := 7) dX1_spreadCosts_94 rfl rfl ?_
              refine SW.iadd (q := 97) dX1_spreadCosts_96 rfl ?_
              refine SW.iload (q := 99) (i := 8) dX1_spreadCosts_97 rfl rfl ?_
              refine SW.cG (q := 102) (C_X3_putn (i := 28) (j := 54) (n := 3456) rfl rfl (k := 576 * t + v0) idx (by omega)) vX1_61 (by decide) rfl rfl rfl rfl (Nat.le_of_ble_eq_true rfl) dX1_spreadCosts_99 rfl ?_
              refine SW.aload_n (q := 103) (i := 3) dX1_spreadCosts_102 rfl rfl rfl ?_
              refine SW.iload (q := 105) (i := 8) dX1_spreadCosts_103 rfl rfl ?_
              refine SW.iload (q := 107) (i := 7) dX1_spreadCosts_105 rfl rfl ?_
              refine SW.cV (q := 110) (C_X0_insert (c := c1) (by rw [sw_un (by decide)]; exact hH1.1) (by omega) (by rw [sw_un (by decide)]; exact hH1.2.1)) vX1_83 (by decide) rfl rfl rfl rfl (Nat.le_of_ble_eq_true rfl) dX1_spreadCosts_107 rfl (fun u107 r107 => ?_)
              obtain ⟨s1, s2, s3, s4⟩ := r107
              rw [hp_key_e (by omega) (by omega), sw_un (by decide)] at s4
              refine SW.iinc (q := 113) (v := _ + 1) dX1_spreadCosts_110 rfl rfl (by decide) rfl ?_
              refine SW.goto (q := 3) dX1_spreadCosts_113 (by decide) ?_
              exact SW.eq (by rw [nI_1]; rfl) rfl rfl (upd (fun c1' z => by rw [hd1] at z; cases z; exact hlt) _ _ _ u107 s1 s2 s3 s4)
            · refine SW.iload (q := 5) (i := 6) dX1_spreadCosts_3 rfl rfl ?_
              refine SW.iconst (q := 6) (v := 4) dX1_spreadCosts_5 (by decide) rfl ?_
              refine SW.icmp_ge (q := 9) (tgt := 116) dX1_spreadCosts_6 (by decide) rfl (fun c6 => absurd c6 ((nI_ge (a := e) (b := 4) (by omega) (by omega)))) (fun _ => ?_)
              refine SW.aload_n (q := 10) (i := 1) dX1_spreadCosts_9 rfl rfl rfl ?_
              refine SW.iload (q := 12) (i := 5) dX1_spreadCosts_10 rfl rfl ?_
              refine SW.iload (q := 14) (i := 6) dX1_spreadCosts_12 rfl rfl ?_
              refine SW.cF (q := 17) (C_X5_beside hG1.1 rfl rfl qP (by omega)) vX1_100 (by decide) rfl rfl rfl rfl (Nat.le_of_ble_eq_true rfl) dX1_spreadCosts_14 rfl ?_
              rw [hnb, vi]
              refine SW.istore (q := 19) (i := 7) dX1_spreadCosts_17 (by decide) rfl ?_
              refine SW.iload (q := 21) (i := 7) dX1_spreadCosts_19 rfl rfl ?_
              refine SW.bipush (q := 23) (v := (-6)) dX1_spreadCosts_21 (by decide) rfl ?_
              refine SW.icmp_eq (q := 26) (tgt := 110) dX1_spreadCosts_23 (by decide) rfl (fun c23 => absurd c23 ((nI_n6 (by omega)))) (fun _ => ?_)
              refine SW.aload_n (q := 27) (i := 2) dX1_spreadCosts_26 rfl rfl rfl ?_
              refine SW.iload (q := 29) (i := 7) dX1_spreadCosts_27 rfl rfl ?_
              refine SW.cF (q := 32) (C_X6_isPassable rfl (by omega)) vX1_104 (by decide) rfl rfl rfl rfl (Nat.le_of_ble_eq_true rfl) dX1_spreadCosts_29 rfl ?_
              rw [hpd]
              refine SW.if_eq (q := 35) (tgt := 110) dX1_spreadCosts_32 (by decide) rfl (fun c32 => absurd c32 ((by decide))) (fun _ => ?_)
              refine SW.aload_n (q := 36) (i := 0) dX1_spreadCosts_35 rfl rfl rfl ?_
              refine SW.getR (q := 39) (i := 5) (j := 28) fX1_14 rfl rfl dX1_spreadCosts_36 rfl ?_
              refine SW.iload (q := 41) (i := 4) dX1_spreadCosts_39 rfl rfl ?_
              refine SW.iload (q := 43) (i := 5) dX1_spreadCosts_41 rfl rfl ?_
              refine SW.iadd (q := 44) dX1_spreadCosts_43 rfl ?_
              refine SW.cF (q := 47) (C_X3_atn (i := 28) (j := 54) (n := 3456) rfl rfl (k := 576 * t + q) (nI_add _ _) (by omega)) vX1_50 (by decide) rfl rfl rfl rfl (Nat.le_of_ble_eq_true rfl) dX1_spreadCosts_44 rfl ?_
              rw [lq]
              refine SW.aload_n (q := 48) (i := 0) dX1_spreadCosts_47 rfl rfl rfl ?_
              refine SW.aload_n (q := 49) (i := 1) dX1_spreadCosts_48 rfl rfl rfl ?_
              refine SW.aload_n (q := 50) (i := 2) dX1_spreadCosts_49 rfl rfl rfl ?_
              refine SW.iload (q := 52) (i := 5) dX1_spreadCosts_50 rfl rfl ?_
              refine SW.iload (q := 54) (i := 7) dX1_spreadCosts_52 rfl rfl ?_
              refine SW.cF (q := 57) (C_X1_stepCost (ht := h) rfl rfl (by omega) (by omega) (hG1.2 q qP) (hG1.2 v0 vP) eb) vX1_110 (by decide) rfl rfl rfl rfl (Nat.le_of_ble_eq_true rfl) dX1_spreadCosts_54 rfl ?_
              refine SW.iadd (q := 58) dX1_spreadCosts_57 rfl ?_
              rw [cst]
              refine SW.istore (q := 60) (i := 8) dX1_spreadCosts_58 (by decide) rfl ?_
              refine SW.aload_n (q := 61) (i := 0) dX1_spreadCosts_60 rfl rfl rfl ?_
              refine SW.getR (q := 64) (i := 5) (j := 28) fX1_14 rfl rfl dX1_spreadCosts_61 rfl ?_
              refine SW.iload (q := 66) (i := 4) dX1_spreadCosts_64 rfl rfl ?_
              refine SW.iload (q := 68) (i := 7) dX1_spreadCosts_66 rfl rfl ?_
              refine SW.iadd (q := 69) dX1_spreadCosts_68 rfl ?_
              refine SW.cF (q := 72) (C_X3_atn (i := 28) (j := 54) (n := 3456) rfl rfl (k := 576 * t + v0) idx (by omega)) vX1_50 (by decide) rfl rfl rfl rfl (Nat.le_of_ble_eq_true rfl) dX1_spreadCosts_69 rfl ?_
              refine SW.istore (q := 74) (i := 9) dX1_spreadCosts_72 (by decide) rfl ?_
              refine SW.iload (q := 76) (i := 9) dX1_spreadCosts_74 rfl rfl ?_
              refine SW.bipush (q := 78) (v := (-6)) dX1_spreadCosts_76 (by decide) rfl ?_
              refine SW.icmp_eq (q := 81) (tgt := 88) dX1_spreadCosts_78 (by decide) rfl (fun c78 => absurd c78 ((by rw [lv1]; exact nI_n6 (by omega)))) (fun _ => ?_)
              refine SW.iload (q := 83) (i := 8) dX1_spreadCosts_81 rfl rfl ?_
              refine SW.iload (q := 85) (i := 9) dX1_spreadCosts_83 rfl rfl ?_
              refine SW.icmp_ge (q := 88) (tgt := 110) dX1_spreadCosts_85 (by decide) rfl (fun _ => ?_) (fun c85 => absurd ((by rw [lv1]; exact nI_le (by omega) (by omega))) c85)
              refine SW.iinc (q := 113) (v := _ + 1) dX1_spreadCosts_110 rfl rfl (by decide) rfl ?_
              refine SW.goto (q := 3) dX1_spreadCosts_113 (by decide) ?_
              exact SW.eq (by rw [nI_1]; rfl) rfl rfl (skip (fun v z _ => by rw [hnb] at z; cases z; exact ⟨c0, hd1, by omega⟩) _ _ _)
        · have hpd : decide (τ 48 v0 = 4 ∨ τ 48 v0 = 8) = false := decide_eq_false (by rw [e48]; exact hp)
          refine SW.iload (q := 5) (i := 6) dX1_spreadCosts_3 rfl rfl ?_
          refine SW.iconst (q := 6) (v := 4) dX1_spreadCosts_5 (by decide) rfl ?_
          refine SW.icmp_ge (q := 9) (tgt := 116) dX1_spreadCosts_6 (by decide) rfl (fun c6 => absurd c6 ((nI_ge (a := e) (b := 4) (by omega) (by omega)))) (fun _ => ?_)
          refine SW.aload_n (q := 10) (i := 1) dX1_spreadCosts_9 rfl rfl rfl ?_
          refine SW.iload (q := 12) (i := 5) dX1_spreadCosts_10 rfl rfl ?_
          refine SW.iload (q := 14) (i := 6) dX1_spreadCosts_12 rfl rfl ?_
          refine SW.cF (q := 17) (C_X5_beside hG1.1 rfl rfl qP (by omega)) vX1_100 (by decide) rfl rfl rfl rfl (Nat.le_of_ble_eq_true rfl) dX1_spreadCosts_14 rfl ?_
          rw [hnb, vi]
          refine SW.istore (q := 19) (i := 7) dX1_spreadCosts_17 (by decide) rfl ?_
          refine SW.iload (q := 21) (i := 7) dX1_spreadCosts_19 rfl rfl ?_
          refine SW.bipush (q := 23) (v := (-6)) dX1_spreadCosts_21 (by decide) rfl ?_
          refine SW.icmp_eq (q := 26) (tgt := 110) dX1_spreadCosts_23 (by decide) rfl (fun c23 => absurd c23 ((nI_n6 (by omega)))) (fun _ => ?_)
          refine SW.aload_n (q := 27) (i := 2) dX1_spreadCosts_26 rfl rfl rfl ?_
          refine SW.iload (q := 29) (i := 7) dX1_spreadCosts_27 rfl rfl ?_
          refine SW.cF (q := 32) (C_X6_isPassable rfl (by omega)) vX1_104 (by decide) rfl rfl rfl rfl (Nat.le_of_ble_eq_true rfl) dX1_spreadCosts_29 rfl ?_
          rw [hpd]
          refine SW.if_eq (q := 35) (tgt := 110) dX1_spreadCosts_32 (by decide) rfl (fun _ => ?_) (fun c32 => absurd (rfl) c32)
          refine SW.iinc (q := 113) (v := _ + 1) dX1_spreadCosts_110 rfl rfl (by decide) rfl ?_
          refine SW.goto (q := 3) dX1_spreadCosts_113 (by decide) ?_
          exact SW.eq (by rw [nI_1]; rfl) rfl rfl (skip (fun v z hpv => by rw [hnb] at z; cases z; exact absurd hpv hp) _ _ _)
  refine SW.iconst (q := 1) (v := 0) dX1_spreadCosts_0 (by decide) rfl ?_
  refine SW.istore (q := 3) (i := 6) dX1_spreadCosts_1 (by decide) rfl ?_
  exact loop 4 0 rfl _ _ _ σ d c fr_rf (fun _ _ => rfl) hlab hC hH nt_dn.rf (fun _ _ => rfl) (fun e' v he' => absurd he' (Nat.not_lt_zero _)) (Nat.le_refl _) (fun _ => ⟨rfl, rfl⟩)
end NCOSTS
