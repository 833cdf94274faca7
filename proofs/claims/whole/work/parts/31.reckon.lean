/-! COSTS in the reference -/
def rl_v : Option Nat → Int32
  | none => -1
  | some q => nI q
def nt_lf (n : Nat) (d : Nat → Option Nat) (τ : sw_Sg) : Prop := ∀ v, v < n * n → τ 75 v = rl_v (d v)
def rk_G (n : Nat) (h : Nat → Nat) (kd : Nat → Int32) (br : Nat) (σ : sw_Sg) : Prop :=
  gr_M σ n ∧ (∀ p, p < n * n → σ 64 p = nI (h p) ∧ h p ≤ 400) ∧ σ 70 = kd ∧ σ 60 3 = nI br ∧ br ≤ 100 ∧ ∀ p, p < n * n → (4 ≤ kd p ↔ nt_pass kd p)
theorem rk_G.fr {l : List Nat} {σ u : sw_Sg} {n br : Nat} {h : Nat → Nat} {kd : Nat → Int32} (a : rk_G n h kd br σ) (hf : fr_ l σ u) (h1 : 59 ∉ l) (h2 : 64 ∉ l) (h3 : 70 ∉ l) (h4 : 60 ∉ l) : rk_G n h kd br u :=
  ⟨a.1.fr hf h1, fun p hp => by rw [hf 64 h2]; exact a.2.1 p hp, by rw [hf 70 h3]; exact a.2.2.1, by rw [hf 60 h4]; exact a.2.2.2.1, a.2.2.2.2⟩
theorem sw_up_self {σ : sw_Sg} {i k : Nat} : sw_up σ i k (σ i k) = σ := by
  funext j l
  by_cases hj : j = i
  · subst hj
    by_cases hl : l = k
    · subst hl; rw [sw_i1]
    · rw [sw_o1 hl]
  · rw [sw_un hj]
section RECKON
variable {X : sw_X} {σ τ : sw_Sg} {x y v w st : Int32} {n p q br r s t M c : Nat} {h : Nat → Nat} {kd : Nat → Int32} {S : Nat → Prop} {d : Nat → Option Nat} {E : State → Prop} {R : Option Value → sw_Sg → Prop}
/-- the steps from the place that is done now -/
theorem rk_edge (hG : rk_G n h kd br τ) (hC : nt_C n h kd br s S d r M) (hqS : S q) (hq : d q = some r) (hlab : nt_lf n d τ) (hM : r + 510 ≤ M) (hM2 : M ≤ 300000)
    (kont : ∀ u d', fr_ [75] τ u → nt_lf n d' u → nt_C n h kd br s S d' r M → nt_dn d d' → (∀ v, S v → d' v = d v) → nt_cl n h kd br d' q → ∀ B C D, SW X 2 mX8_reckon E R 147 [.ref (sw_ad X 59), .int (nI s), .int (nI q), B, C, D] [] u) :
    ∀ C D, SW X 2 mX8_reckon E R 57 [.ref (sw_ad X 59), .int (nI s), .int (nI q), .int 0, C, D] [] τ := by
  have n24 : n ≤ 24 := hG.1.2.1
  have h576 := gr_576 n24
  have qP : q < n * n := (hC.2.1 q r hq).1
  have rM : r ≤ M := (hC.2.1 q r hq).2.1
  have loop : ∀ (k e : Nat), e + k = 4 → ∀ (C D : Value) (u : sw_Sg) (d1 : Nat → Option Nat), fr_ [75] τ u → nt_lf n d1 u → nt_C n h kd br s S d1 r M → nt_dn d d1 → (∀ v, S v → d1 v = d v) →
      (∀ e' v, e' < e → gr_nb n q e' = some v → nt_pass kd v → ∃ c', d1 v = some c' ∧ c' ≤ r + nt_st h kd br q v) →
      SW X 2 mX8_reckon E R 57 [.ref (sw_ad X 59), .int (nI s), .int (nI q), .int (nI e), C, D] [] u := by
    intro k
    induction k with
    | zero =>
      intro e he C D u d1 hf hl1 hC1 hdn hSd hcl
      obtain rfl : e = 4 := by omega
      refine SW.iload_n (q := 58) (i := 3) dX8_reckon_57 rfl rfl rfl ?_
      refine SW.iconst (q := 59) (v := 4) dX8_reckon_58 (by decide) rfl ?_
      refine SW.icmp_ge (q := 62) (tgt := 147) dX8_reckon_59 (by decide) rfl (fun _ => ?_) (fun c59 => absurd ((by decide)) c59)
      refine kont u d1 hf hl1 hC1 hdn hSd (fun c0 v e0 ha hp => ?_) _ _ _
      obtain ⟨e', e4, ea⟩ := ha
      rw [hSd q hqS, hq] at e0
      cases e0
      exact hcl e' v e4 ea hp
    | succ k ih =>
      intro e he C D u d1 hf hl1 hC1 hdn hSd hcl
      have hG1 := hG.fr hf (by decide) (by decide) (by decide) (by decide)
      have e70 : u 70 = kd := hG1.2.2.1
      have dq : d1 q = some r := by rw [hSd q hqS]; exact hq
      have lq : u 75 q = nI r := by rw [hl1 q qP, dq]; rfl
      have skip : (∀ v, gr_nb n q e = some v → nt_pass kd v → ∃ c', d1 v = some c' ∧ c' ≤ r + nt_st h kd br q v) → ∀ C D, SW X 2 mX8_reckon E R 57 [.ref (sw_ad X 59), .int (nI s), .int (nI q), .int (nI (e + 1)), C, D] [] u := by
        intro hv C D
        refine ih (e + 1) (by omega) C D u d1 hf hl1 hC1 hdn hSd (fun e' v he' ea hp => ?_)
        by_cases z : e' = e
        · subst z; exact hv v ea hp
        · exact hcl e' v (by omega) ea hp
      cases hnb : gr_nb n q e with
      | none =>
        refine SW.iload_n (q := 58) (i := 3) dX8_reckon_57 rfl rfl rfl ?_
        refine SW.iconst (q := 59) (v := 4) dX8_reckon_58 (by decide) rfl ?_
        refine SW.icmp_ge (q := 62) (tgt := 147) dX8_reckon_59 (by decide) rfl (fun c59 => absurd c59 ((nI_ge (a := e) (b := 4) (by omega) (by omega)))) (fun _ => ?_)
        refine SW.aload_n (q := 63) (i := 0) dX8_reckon_62 rfl rfl rfl ?_
        refine SW.iload_n (q := 64) (i := 2) dX8_reckon_63 rfl rfl rfl ?_
        refine SW.iload_n (q := 65) (i := 3) dX8_reckon_64 rfl rfl rfl ?_
        refine SW.cF (q := 68) (C_X8_beside hG1.1 rfl rfl qP (by omega)) vX8_114 (by decide) rfl rfl rfl rfl (Nat.le_of_ble_eq_true rfl) dX8_reckon_65 rfl ?_
        rw [hnb]
        refine SW.istore (q := 70) (i := 4) dX8_reckon_68 (by decide) rfl ?_
        refine SW.iload (q := 72) (i := 4) dX8_reckon_70 rfl rfl ?_
        refine SW.if_lt (q := 75) (tgt := 141) dX8_reckon_72 (by decide) rfl (fun _ => ?_) (fun c72 => absurd ((by decide)) c72)
        refine SW.iinc (q := 144) (v := _ + 1) dX8_reckon_141 rfl rfl (by decide) rfl ?_
        refine SW.goto (q := 57) dX8_reckon_144 (by decide) ?_
        exact SW.eq (by rw [nI_1]; rfl) rfl rfl (skip (fun v z => by rw [hnb] at z; cases z) _ _)
      | some v0 =>
        have vP := (gr_nb_lt qP hnb).1
        have vi : gr_v (some v0) = nI v0 := rfl
        have hadj : wl_adj n q v0 := ⟨e, by omega, hnb⟩
        by_cases hp : nt_pass kd v0
        · have hpd : decide (4 ≤ u 70 v0) = true := decide_eq_true (by rw [e70]; exact (hG.2.2.2.2.2 v0 vP).mpr hp)
          have hst := nt_st_le (ht := h) (kd := kd) (br := br) (p := q) (q := v0) (hG.2.1 q qP).2 (hG.2.1 v0 vP).2 hG.2.2.2.2.1
          have cst : nI r + nI (nt_st h (u 70) br q v0) = nI (r + nt_st h kd br q v0) := by rw [nI_add, e70]
          have lv0 := hl1 v0 vP
          have upd : (∀ c0, d1 v0 = some c0 → r + nt_st h kd br q v0 < c0) → ∀ (C D : Value),
              SW X 2 mX8_reckon E R 57 [.ref (sw_ad X 59), .int (nI s), .int (nI q), .int (nI (e + 1)), C, D] [] (sw_up u 75 v0 (nI (r + nt_st h kd br q v0))) := by
            intro hbet C D
            obtain ⟨s1, s2, s3, s4⟩ := nt_relax hC1 dq hadj hp (by omega) hbet
            refine ih (e + 1) (by omega) C D _ _ (fr_up hf (by decide)) (fun v hv => ?_) s2 (fun v c0 e0 => ?_) (fun v hv => by rw [s4 v hv]; exact hSd v hv) (fun e' v he' ea hpv => ?_)
            · by_cases z : v = v0
              · subst z; rw [sw_i1, up_i]; rfl
              · rw [sw_o1 z, up_o z]; exact hl1 v hv
            · obtain ⟨c2, z1, z2⟩ := hdn v c0 e0
              obtain ⟨c3, z3, z4⟩ := s3 v c2 z1
              exact ⟨c3, z3, by omega⟩
            · by_cases ze : e' = e
              · subst ze
                rw [hnb] at ea; cases ea
                exact ⟨_, up_i, Nat.le_refl _⟩
              · obtain ⟨c2, z1, z2⟩ := hcl e' v (by omega) ea hpv
                obtain ⟨c3, z3, z4⟩ := s3 v c2 z1
                exact ⟨c3, z3, by omega⟩
          cases hd1 : d1 v0 with
          | none =>
            have lv1 : u 75 v0 = -1 := by rw [lv0, hd1]; rfl
            refine SW.iload_n (q := 58) (i := 3) dX8_reckon_57 rfl rfl rfl ?_
            refine SW.iconst (q := 59) (v := 4) dX8_reckon_58 (by decide) rfl ?_
            refine SW.icmp_ge (q := 62) (tgt := 147) dX8_reckon_59 (by decide) rfl (fun c59 => absurd c59 ((nI_ge (a := e) (b := 4) (by omega) (by omega)))) (fun _ => ?_)
            refine SW.aload_n (q := 63) (i := 0) dX8_reckon_62 rfl rfl rfl ?_
            refine SW.iload_n (q := 64) (i := 2) dX8_reckon_63 rfl rfl rfl ?_
            refine SW.iload_n (q := 65) (i := 3) dX8_reckon_64 rfl rfl rfl ?_
            refine SW.cF (q := 68) (C_X8_beside hG1.1 rfl rfl qP (by omega)) vX8_114 (by decide) rfl rfl rfl rfl (Nat.le_of_ble_eq_true rfl) dX8_reckon_65 rfl ?_
            rw [hnb, vi]
            refine SW.istore (q := 70) (i := 4) dX8_reckon_68 (by decide) rfl ?_
            refine SW.iload (q := 72) (i := 4) dX8_reckon_70 rfl rfl ?_
            refine SW.if_lt (q := 75) (tgt := 141) dX8_reckon_72 (by decide) rfl (fun c72 => absurd c72 ((nI_pos (by omega)))) (fun _ => ?_)
            refine SW.aload_n (q := 76) (i := 0) dX8_reckon_75 rfl rfl rfl ?_
            refine SW.iload (q := 78) (i := 4) dX8_reckon_76 rfl rfl ?_
            refine SW.cF (q := 81) (C_X8_isWay (p := v0) rfl (by omega)) vX8_146 (by decide) rfl rfl rfl rfl (Nat.le_of_ble_eq_true rfl) dX8_reckon_78 rfl ?_
            rw [hpd]
            refine SW.if_eq (q := 84) (tgt := 141) dX8_reckon_81 (by decide) rfl (fun c81 => absurd c81 ((by decide))) (fun _ => ?_)
            refine SW.aload_n (q := 85) (i := 0) dX8_reckon_84 rfl rfl rfl ?_
            refine SW.getR (q := 88) (i := 59) (j := 75) fX8_59 rfl rfl dX8_reckon_85 rfl ?_
            refine SW.iload_n (q := 89) (i := 2) dX8_reckon_88 rfl rfl rfl ?_
            refine SW.ialdN (q := 90) (k := q) rfl (rfl) (by omega) (by decide) dX8_reckon_89 rfl ?_
            refine SW.aload_n (q := 91) (i := 0) dX8_reckon_90 rfl rfl rfl ?_
            refine SW.iload_n (q := 92) (i := 2) dX8_reckon_91 rfl rfl rfl ?_
            refine SW.iload (q := 94) (i := 4) dX8_reckon_92 rfl rfl ?_
            refine SW.cF (C_X8_stepCost (ht := h) (p := q) (q := v0) rfl rfl (by omega) (by omega) (hG1.2.1 q qP) (hG1.2.1 v0 vP) hG1.2.2.2.1) vX8_149 (by decide) rfl rfl rfl rfl (Nat.le_of_ble_eq_true rfl) dX8_reckon_94 rfl ?_
            refine SW.iadd (q := 98) dX8_reckon_97 rfl ?_
            rw [lq, cst]
            refine SW.istore (q := 100) (i := 5) dX8_reckon_98 (by decide) rfl ?_
            refine SW.aload_n (q := 101) (i := 0) dX8_reckon_100 rfl rfl rfl ?_
            refine SW.getR (q := 104) (i := 59) (j := 75) fX8_59 rfl rfl dX8_reckon_101 rfl ?_
            refine SW.iload (q := 106) (i := 4) dX8_reckon_104 rfl rfl ?_
            refine SW.aload_n (q := 107) (i := 0) dX8_reckon_106 rfl rfl rfl ?_
            refine SW.getR (q := 110) (i := 59) (j := 75) fX8_59 rfl rfl dX8_reckon_107 rfl ?_
            refine SW.iload (q := 112) (i := 4) dX8_reckon_110 rfl rfl ?_
            refine SW.ialdN (q := 113) (k := v0) rfl (rfl) (by omega) (by decide) dX8_reckon_112 rfl ?_
            refine SW.if_lt (q := 116) (tgt := 128) dX8_reckon_113 (by decide) rfl (fun _ => ?_) (fun c113 => absurd ((by rw [lv1]; decide)) c113)
            refine SW.iload (q := 130) (i := 5) dX8_reckon_128 rfl rfl ?_
            refine SW.goto (q := 140) dX8_reckon_130 (by decide) ?_
            refine SW.iastN (q := 141) (k := v0) rfl (rfl) (by omega) (by decide) dX8_reckon_140 rfl ?_
            refine SW.iinc (q := 144) (v := _ + 1) dX8_reckon_141 rfl rfl (by decide) rfl ?_
            refine SW.goto (q := 57) dX8_reckon_144 (by decide) ?_
            exact SW.eq (by rw [nI_1]; rfl) rfl rfl (upd (fun c0 z => by rw [hd1] at z; cases z) _ _)
          | some c0 =>
            have lv1 : u 75 v0 = nI c0 := by rw [lv0, hd1]; rfl
            have c0M := (hC1.2.1 v0 c0 hd1).2.1
            by_cases hlt : r + nt_st h kd br q v0 < c0
            · refine SW.iload_n (q := 58) (i := 3) dX8_reckon_57 rfl rfl rfl ?_
              refine SW.iconst (q := 59) (v := 4) dX8_reckon_58 (by decide) rfl ?_
              refine SW.icmp_ge (q := 62) (tgt := 147) dX8_reckon_59 (by decide) rfl (fun c59 => absurd c59 ((nI_ge (a := e) (b := 4) (by omega) (by omega)))) (fun _ => ?_)
              refine SW.aload_n (q := 63) (i := 0) dX8_reckon_62 rfl rfl rfl ?_
              refine SW.iload_n (q := 64) (i := 2) dX8_reckon_63 rfl rfl rfl ?_
              refine SW.iload_n (q := 65) (i := 3) dX8_reckon_64 rfl rfl rfl ?_
              refine SW.cF (q := 68) (C_X8_beside hG1.1 rfl rfl qP (by omega)) vX8_114 (by decide) rfl rfl rfl rfl (Nat.le_of_ble_eq_true rfl) dX8_reckon_65 rfl ?_
              rw [hnb, vi]
              refine SW.istore (q := 70) (i := 4) dX8_reckon_68 (by decide) rfl ?_
              refine SW.iload (q := 72) (i := 4) dX8_reckon_70 rfl rfl ?_
              refine SW.if_lt (q := 75) (tgt := 141) dX8_reckon_72 (by decide) rfl (fun c72 => absurd c72 ((nI_pos (by omega)))) (fun _ => ?_)
              refine SW.aload_n (q := 76) (i := 0) dX8_reckon_75 rfl rfl rfl ?_
              refine SW.iload (q := 78) (i := 4) dX8_reckon_76 rfl rfl ?_
              refine SW.cF (q := 81) (C_X8_isWay (p := v0) rfl (by omega)) vX8_146 (by decide) rfl rfl rfl rfl (Nat.le_of_ble_eq_true rfl) dX8_reckon_78 rfl ?_
              rw [hpd]
              refine SW.if_eq (q := 84) (tgt := 141) dX8_reckon_81 (by decide) rfl (fun c81 => absurd c81 ((by decide))) (fun _ => ?_)
              refine SW.aload_n (q := 85) (i := 0) dX8_reckon_84 rfl rfl rfl ?_
              refine SW.getR (q := 88) (i := 59) (j := 75) fX8_59 rfl rfl dX8_reckon_85 rfl ?_
              refine SW.iload_n (q := 89) (i := 2) dX8_reckon_88 rfl rfl rfl ?_
              refine SW.ialdN (q := 90) (k := q) rfl (rfl) (by omega) (by decide) dX8_reckon_89 rfl ?_
              refine SW.aload_n (q := 91) (i := 0) dX8_reckon_90 rfl rfl rfl ?_
              refine SW.iload_n (q := 92) (i := 2) dX8_reckon_91 rfl rfl rfl ?_
              refine SW.iload (q := 94) (i := 4) dX8_reckon_92 rfl rfl ?_
              refine SW.cF (C_X8_stepCost (ht := h) (p := q) (q := v0) rfl rfl (by omega) (by omega) (hG1.2.1 q qP) (hG1.2.1 v0 vP) hG1.2.2.2.1) vX8_149 (by decide) rfl rfl rfl rfl (Nat.le_of_ble_eq_true rfl) dX8_reckon_94 rfl ?_
              refine SW.iadd (q := 98) dX8_reckon_97 rfl ?_
              rw [lq, cst]
              refine SW.istore (q := 100) (i := 5) dX8_reckon_98 (by decide) rfl ?_
              refine SW.aload_n (q := 101) (i := 0) dX8_reckon_100 rfl rfl rfl ?_
              refine SW.getR (q := 104) (i := 59) (j := 75) fX8_59 rfl rfl dX8_reckon_101 rfl ?_
              refine SW.iload (q := 106) (i := 4) dX8_reckon_104 rfl rfl ?_
              refine SW.aload_n (q := 107) (i := 0) dX8_reckon_106 rfl rfl rfl ?_
              refine SW.getR (q := 110) (i := 59) (j := 75) fX8_59 rfl rfl dX8_reckon_107 rfl ?_
              refine SW.iload (q := 112) (i := 4) dX8_reckon_110 rfl rfl ?_
              refine SW.ialdN (q := 113) (k := v0) rfl (rfl) (by omega) (by decide) dX8_reckon_112 rfl ?_
              refine SW.if_lt (q := 116) (tgt := 128) dX8_reckon_113 (by decide) rfl (fun c113 => absurd c113 ((by rw [lv1]; exact nI_pos (by omega)))) (fun _ => ?_)
              refine SW.iload (q := 118) (i := 5) dX8_reckon_116 rfl rfl ?_
              refine SW.aload_n (q := 119) (i := 0) dX8_reckon_118 rfl rfl rfl ?_
              refine SW.getR (q := 122) (i := 59) (j := 75) fX8_59 rfl rfl dX8_reckon_119 rfl ?_
              refine SW.iload (q := 124) (i := 4) dX8_reckon_122 rfl rfl ?_
              refine SW.ialdN (q := 125) (k := v0) rfl (rfl) (by omega) (by decide) dX8_reckon_124 rfl ?_
              refine SW.icmp_ge (q := 128) (tgt := 133) dX8_reckon_125 (by decide) rfl (fun c125 => absurd c125 ((by rw [lv1]; exact nI_ge hlt (by omega)))) (fun _ => ?_)
              refine SW.iload (q := 130) (i := 5) dX8_reckon_128 rfl rfl ?_
              refine SW.goto (q := 140) dX8_reckon_130 (by decide) ?_
              refine SW.iastN (q := 141) (k := v0) rfl (rfl) (by omega) (by decide) dX8_reckon_140 rfl ?_
              refine SW.iinc (q := 144) (v := _ + 1) dX8_reckon_141 rfl rfl (by decide) rfl ?_
              refine SW.goto (q := 57) dX8_reckon_144 (by decide) ?_
              exact SW.eq (by rw [nI_1]; rfl) rfl rfl (upd (fun c1' z => by rw [hd1] at z; cases z; exact hlt) _ _)
            · refine SW.iload_n (q := 58) (i := 3) dX8_reckon_57 rfl rfl rfl ?_
              refine SW.iconst (q := 59) (v := 4) dX8_reckon_58 (by decide) rfl ?_
              refine SW.icmp_ge (q := 62) (tgt := 147) dX8_reckon_59 (by decide) rfl (fun c59 => absurd c59 ((nI_ge (a := e) (b := 4) (by omega) (by omega)))) (fun _ => ?_)
              refine SW.aload_n (q := 63) (i := 0) dX8_reckon_62 rfl rfl rfl ?_
              refine SW.iload_n (q := 64) (i := 2) dX8_reckon_63 rfl rfl rfl ?_
              refine SW.iload_n (q := 65) (i := 3) dX8_reckon_64 rfl rfl rfl ?_
              refine SW.cF (q := 68) (C_X8_beside hG1.1 rfl rfl qP (by omega)) vX8_114 (by decide) rfl rfl rfl rfl (Nat.le_of_ble_eq_true rfl) dX8_reckon_65 rfl ?_
              rw [hnb, vi]
              refine SW.istore (q := 70) (i := 4) dX8_reckon_68 (by decide) rfl ?_
              refine SW.iload (q := 72) (i := 4) dX8_reckon_70 rfl rfl ?_
              refine SW.if_lt (q := 75) (tgt := 141) dX8_reckon_72 (by decide) rfl (fun c72 => absurd c72 ((nI_pos (by omega)))) (fun _ => ?_)
              refine SW.aload_n (q := 76) (i := 0) dX8_reckon_75 rfl rfl rfl ?_
              refine SW.iload (q := 78) (i := 4) dX8_reckon_76 rfl rfl ?_
              refine SW.cF (q := 81) (C_X8_isWay (p := v0) rfl (by omega)) vX8_146 (by decide) rfl rfl rfl rfl (Nat.le_of_ble_eq_true rfl) dX8_reckon_78 rfl ?_
              rw [hpd]
              refine SW.if_eq (q := 84) (tgt := 141) dX8_reckon_81 (by decide) rfl (fun c81 => absurd c81 ((by decide))) (fun _ => ?_)
              refine SW.aload_n (q := 85) (i := 0) dX8_reckon_84 rfl rfl rfl ?_
              refine SW.getR (q := 88) (i := 59) (j := 75) fX8_59 rfl rfl dX8_reckon_85 rfl ?_
              refine SW.iload_n (q := 89) (i := 2) dX8_reckon_88 rfl rfl rfl ?_
              refine SW.ialdN (q := 90) (k := q) rfl (rfl) (by omega) (by decide) dX8_reckon_89 rfl ?_
              refine SW.aload_n (q := 91) (i := 0) dX8_reckon_90 rfl rfl rfl ?_
              refine SW.iload_n (q := 92) (i := 2) dX8_reckon_91 rfl rfl rfl ?_
              refine SW.iload (q := 94) (i := 4) dX8_reckon_92 rfl rfl ?_
              refine SW.cF (C_X8_stepCost (ht := h) (p := q) (q := v0) rfl rfl (by omega) (by omega) (hG1.2.1 q qP) (hG1.2.1 v0 vP) hG1.2.2.2.1) vX8_149 (by decide) rfl rfl rfl rfl (Nat.le_of_ble_eq_true rfl) dX8_reckon_94 rfl ?_
              refine SW.iadd (q := 98) dX8_reckon_97 rfl ?_
              rw [lq, cst]
              refine SW.istore (q := 100) (i := 5) dX8_reckon_98 (by decide) rfl ?_
              refine SW.aload_n (q := 101) (i := 0) dX8_reckon_100 rfl rfl rfl ?_
              refine SW.getR (q := 104) (i := 59) (j := 75) fX8_59 rfl rfl dX8_reckon_101 rfl ?_
              refine SW.iload (q := 106) (i := 4) dX8_reckon_104 rfl rfl ?_
              refine SW.aload_n (q := 107) (i := 0) dX8_reckon_106 rfl rfl rfl ?_
              refine SW.getR (q := 110) (i := 59) (j := 75) fX8_59 rfl rfl dX8_reckon_107 rfl ?_
              refine SW.iload (q := 112) (i := 4) dX8_reckon_110 rfl rfl ?_
              refine SW.ialdN (q := 113) (k := v0) rfl (rfl) (by omega) (by decide) dX8_reckon_112 rfl ?_
              refine SW.if_lt (q := 116) (tgt := 128) dX8_reckon_113 (by decide) rfl (fun c113 => absurd c113 ((by rw [lv1]; exact nI_pos (by omega)))) (fun _ => ?_)
              refine SW.iload (q := 118) (i := 5) dX8_reckon_116 rfl rfl ?_
              refine SW.aload_n (q := 119) (i := 0) dX8_reckon_118 rfl rfl rfl ?_
              refine SW.getR (q := 122) (i := 59) (j := 75) fX8_59 rfl rfl dX8_reckon_119 rfl ?_
              refine SW.iload (q := 124) (i := 4) dX8_reckon_122 rfl rfl ?_
              refine SW.ialdN (q := 125) (k := v0) rfl (rfl) (by omega) (by decide) dX8_reckon_124 rfl ?_
              refine SW.icmp_ge (q := 128) (tgt := 133) dX8_reckon_125 (by decide) rfl (fun _ => ?_) (fun c125 => absurd ((by rw [lv1]; exact nI_le (by omega) (by omega))) c125)
              refine SW.aload_n (q := 134) (i := 0) dX8_reckon_133 rfl rfl rfl ?_
              refine SW.getR (q := 137) (i := 59) (j := 75) fX8_59 rfl rfl dX8_reckon_134 rfl ?_
              refine SW.iload (q := 139) (i := 4) dX8_reckon_137 rfl rfl ?_
              refine SW.ialdN (q := 140) (k := v0) rfl (rfl) (by omega) (by decide) dX8_reckon_139 rfl ?_
              refine SW.iastN (q := 141) (k := v0) rfl (rfl) (by omega) (by decide) dX8_reckon_140 rfl ?_
              refine SW.iinc (q := 144) (v := _ + 1) dX8_reckon_141 rfl rfl (by decide) rfl ?_
              refine SW.goto (q := 57) dX8_reckon_144 (by decide) ?_
              exact SW.eq (by rw [nI_1]; rfl) rfl sw_up_self (skip (fun v z _ => by rw [hnb] at z; cases z; exact ⟨c0, hd1, by omega⟩) _ _)
        · have hpd : decide (4 ≤ u 70 v0) = false := decide_eq_false (by rw [e70]; exact fun z => hp ((hG.2.2.2.2.2 v0 vP).mp z))
          refine SW.iload_n (q := 58) (i := 3) dX8_reckon_57 rfl rfl rfl ?_
          refine SW.iconst (q := 59) (v := 4) dX8_reckon_58 (by decide) rfl ?_
          refine SW.icmp_ge (q := 62) (tgt := 147) dX8_reckon_59 (by decide) rfl (fun c59 => absurd c59 ((nI_ge (a := e) (b := 4) (by omega) (by omega)))) (fun _ => ?_)
          refine SW.aload_n (q := 63) (i := 0) dX8_reckon_62 rfl rfl rfl ?_
          refine SW.iload_n (q := 64) (i := 2) dX8_reckon_63 rfl rfl rfl ?_
          refine SW.iload_n (q := 65) (i := 3) dX8_reckon_64 rfl rfl rfl ?_
          refine SW.cF (q := 68) (C_X8_beside hG1.1 rfl rfl qP (by omega)) vX8_114 (by decide) rfl rfl rfl rfl (Nat.le_of_ble_eq_true rfl) dX8_reckon_65 rfl ?_
          rw [hnb, vi]
          refine SW.istore (q := 70) (i := 4) dX8_reckon_68 (by decide) rfl ?_
          refine SW.iload (q := 72) (i := 4) dX8_reckon_70 rfl rfl ?_
          refine SW.if_lt (q := 75) (tgt := 141) dX8_reckon_72 (by decide) rfl (fun c72 => absurd c72 ((nI_pos (by omega)))) (fun _ => ?_)
          refine SW.aload_n (q := 76) (i := 0) dX8_reckon_75 rfl rfl rfl ?_
          refine SW.iload (q := 78) (i := 4) dX8_reckon_76 rfl rfl ?_
          refine SW.cF (q := 81) (C_X8_isWay (p := v0) rfl (by omega)) vX8_146 (by decide) rfl rfl rfl rfl (Nat.le_of_ble_eq_true rfl) dX8_reckon_78 rfl ?_
          rw [hpd]
          refine SW.if_eq (q := 84) (tgt := 141) dX8_reckon_81 (by decide) rfl (fun _ => ?_) (fun c81 => absurd (rfl) c81)
          refine SW.iinc (q := 144) (v := _ + 1) dX8_reckon_141 rfl rfl (by decide) rfl ?_
          refine SW.goto (q := 57) dX8_reckon_144 (by decide) ?_
          exact SW.eq (by rw [nI_1]; rfl) rfl rfl (skip (fun v z hpv => by rw [hnb] at z; cases z; exact absurd hpv hp) _ _)
  intro C D
  exact loop 4 0 rfl C D τ d fr_rf hlab hC nt_dn.rf (fun _ _ => rfl) (fun e' v he' => absurd he' (Nat.not_lt_zero _))
def rk_dn (n : Nat) (S : Nat → Prop) (τ : sw_Sg) : Prop := ∀ v, v < n * n → (S v → τ 76 v = 1) ∧ (¬ S v → τ 76 v = 0)
/-- the next place: none is cheaper -/
def rk_b (S : Nat → Prop) (d : Nat → Option Nat) (p : Nat) : Option Nat → Prop
  | none => ∀ v, v < p → ¬ S v → d v = none
  | some b => b < p ∧ ¬ S b ∧ ∃ c, d b = some c ∧ ∀ v c', v < p → ¬ S v → d v = some c' → c ≤ c'
theorem rk_scan (hM : gr_M τ n) (hl : nt_lf n d τ) (hS : rk_dn n S τ) (hbd : ∀ v c, d v = some c → c ≤ 300000)
    (kont : ∀ b, rk_b S d (n * n) b → ∀ A C D, SW X 2 mX8_reckon E R 44 [.ref (sw_ad X 59), .int (nI s), .int (gr_v b), A, C, D] [] τ) :
    ∀ (k p : Nat), p + k = n * n → ∀ b C D, rk_b S d p b → SW X 2 mX8_reckon E R 152 [.ref (sw_ad X 59), .int (nI s), .int (gr_v b), .int (nI p), C, D] [] τ := by
  have n24 : n ≤ 24 := hM.2.1
  have h576 := gr_576 n24
  have en : τ 59 1 = nI n := hM.2.2
  intro k
  induction k with
  | zero =>
    intro p hpk b C D hb
    obtain rfl : p = n * n := by omega
    refine SW.iload_n (q := 153) (i := 3) dX8_reckon_152 rfl rfl rfl ?_
    refine SW.aload_n (q := 154) (i := 0) dX8_reckon_153 rfl rfl rfl ?_
    refine SW.getI (q := 157) (i := 59) fX8_7 rfl rfl dX8_reckon_154 rfl ?_
    refine SW.aload_n (q := 158) (i := 0) dX8_reckon_157 rfl rfl rfl ?_
    refine SW.getI (q := 161) (i := 59) fX8_7 rfl rfl dX8_reckon_158 rfl ?_
    refine SW.imul (q := 162) dX8_reckon_161 rfl ?_
    refine SW.icmp_ge (q := 165) (tgt := 214) dX8_reckon_162 (by decide) rfl (fun _ => ?_) (fun c162 => absurd ((by rw [en, pk_mul]; exact Int32.le_refl _)) c162)
    refine SW.goto (q := 44) dX8_reckon_214 (by decide) ?_
    exact kont b hb _ _ _
  | succ k ih =>
    intro p hpk b C D hb
    have hp : p < n * n := by omega
    have keep : rk_b S d (p + 1) b → ∀ C D, SW X 2 mX8_reckon E R 152 [.ref (sw_ad X 59), .int (nI s), .int (gr_v b), .int (nI (p + 1)), C, D] [] τ := fun z C D => ih (p + 1) (by omega) b C D z
    have take : rk_b S d (p + 1) (some p) → ∀ C D, SW X 2 mX8_reckon E R 152 [.ref (sw_ad X 59), .int (nI s), .int (nI p), .int (nI (p + 1)), C, D] [] τ := fun z C D => ih (p + 1) (by omega) (some p) C D z
    have kp : (S p ∨ d p = none) → rk_b S d (p + 1) b := by
      intro z
      cases b with
      | none =>
        intro v hv hs
        by_cases e : v = p
        · subst e; exact z.resolve_left hs
        · exact hb v (by omega) hs
      | some b =>
        obtain ⟨b1, b2, c, b3, b4⟩ := hb
        refine ⟨by omega, b2, c, b3, fun v c' hv hs e' => ?_⟩
        by_cases e : v = p
        · subst e; rcases z with z | z
          · exact absurd z hs
          · rw [z] at e'; cases e'
        · exact b4 v c' (by omega) hs e'
    by_cases hs : S p
    · refine SW.iload_n (q := 153) (i := 3) dX8_reckon_152 rfl rfl rfl ?_
      refine SW.aload_n (q := 154) (i := 0) dX8_reckon_153 rfl rfl rfl ?_
      refine SW.getI (q := 157) (i := 59) fX8_7 rfl rfl dX8_reckon_154 rfl ?_
      refine SW.aload_n (q := 158) (i := 0) dX8_reckon_157 rfl rfl rfl ?_
      refine SW.getI (q := 161) (i := 59) fX8_7 rfl rfl dX8_reckon_158 rfl ?_
      refine SW.imul (q := 162) dX8_reckon_161 rfl ?_
      refine SW.icmp_ge (q := 165) (tgt := 214) dX8_reckon_162 (by decide) rfl (fun c162 => absurd c162 ((by rw [en, pk_mul]; exact nI_ge (by omega) (by omega)))) (fun _ => ?_)
      refine SW.aload_n (q := 166) (i := 0) dX8_reckon_165 rfl rfl rfl ?_
      refine SW.getR (q := 169) (i := 59) (j := 76) fX8_62 rfl rfl dX8_reckon_166 rfl ?_
      refine SW.iload_n (q := 170) (i := 3) dX8_reckon_169 rfl rfl rfl ?_
      refine SW.zaldN (q := 171) (k := p) rfl (rfl) (by omega) (by decide) dX8_reckon_170 rfl ?_
      refine SW.if_ne (q := 174) (tgt := 206) dX8_reckon_171 (by decide) rfl (fun _ => ?_) (fun c171 => absurd c171 ((by rw [(hS p hp).1 hs]; decide)))
      refine SW.iload_n (q := 207) (i := 2) dX8_reckon_206 rfl rfl rfl ?_
      refine SW.istore_n (q := 208) (i := 2) dX8_reckon_207 rfl (by decide) rfl ?_
      refine SW.iinc (q := 211) (v := _ + 1) dX8_reckon_208 rfl rfl (by decide) rfl ?_
      refine SW.goto (q := 152) dX8_reckon_211 (by decide) ?_
      exact SW.eq (by rw [nI_1]; rfl) rfl rfl (keep (kp (Or.inl hs)) _ _)
    · cases hd : d p with
      | none =>
        refine SW.iload_n (q := 153) (i := 3) dX8_reckon_152 rfl rfl rfl ?_
        refine SW.aload_n (q := 154) (i := 0) dX8_reckon_153 rfl rfl rfl ?_
        refine SW.getI (q := 157) (i := 59) fX8_7 rfl rfl dX8_reckon_154 rfl ?_
        refine SW.aload_n (q := 158) (i := 0) dX8_reckon_157 rfl rfl rfl ?_
        refine SW.getI (q := 161) (i := 59) fX8_7 rfl rfl dX8_reckon_158 rfl ?_
        refine SW.imul (q := 162) dX8_reckon_161 rfl ?_
        refine SW.icmp_ge (q := 165) (tgt := 214) dX8_reckon_162 (by decide) rfl (fun c162 => absurd c162 ((by rw [en, pk_mul]; exact nI_ge (by omega) (by omega)))) (fun _ => ?_)
        refine SW.aload_n (q := 166) (i := 0) dX8_reckon_165 rfl rfl rfl ?_
        refine SW.getR (q := 169) (i := 59) (j := 76) fX8_62 rfl rfl dX8_reckon_166 rfl ?_
        refine SW.iload_n (q := 170) (i := 3) dX8_reckon_169 rfl rfl rfl ?_
        refine SW.zaldN (q := 171) (k := p) rfl (rfl) (by omega) (by decide) dX8_reckon_170 rfl ?_
        refine SW.if_ne (q := 174) (tgt := 206) dX8_reckon_171 (by decide) rfl (fun c171 => absurd (((hS p hp).2 hs)) c171) (fun _ => ?_)
        refine SW.aload_n (q := 175) (i := 0) dX8_reckon_174 rfl rfl rfl ?_
        refine SW.getR (q := 178) (i := 59) (j := 75) fX8_59 rfl rfl dX8_reckon_175 rfl ?_
        refine SW.iload_n (q := 179) (i := 3) dX8_reckon_178 rfl rfl rfl ?_
        refine SW.ialdN (q := 180) (k := p) rfl (rfl) (by omega) (by decide) dX8_reckon_179 rfl ?_
        refine SW.if_lt (q := 183) (tgt := 206) dX8_reckon_180 (by decide) rfl (fun _ => ?_) (fun c180 => absurd ((by rw [hl p hp, hd]; decide)) c180)
        refine SW.iload_n (q := 207) (i := 2) dX8_reckon_206 rfl rfl rfl ?_
        refine SW.istore_n (q := 208) (i := 2) dX8_reckon_207 rfl (by decide) rfl ?_
        refine SW.iinc (q := 211) (v := _ + 1) dX8_reckon_208 rfl rfl (by decide) rfl ?_
        refine SW.goto (q := 152) dX8_reckon_211 (by decide) ?_
        exact SW.eq (by rw [nI_1]; rfl) rfl rfl (keep (kp (Or.inr hd)) _ _)
      | some c =>
        have lp : τ 75 p = nI c := by rw [hl p hp, hd]; rfl
        have cb := hbd p c hd
        cases b with
        | none =>
          refine SW.iload_n (q := 153) (i := 3) dX8_reckon_152 rfl rfl rfl ?_
          refine SW.aload_n (q := 154) (i := 0) dX8_reckon_153 rfl rfl rfl ?_
          refine SW.getI (q := 157) (i := 59) fX8_7 rfl rfl dX8_reckon_154 rfl ?_
          refine SW.aload_n (q := 158) (i := 0) dX8_reckon_157 rfl rfl rfl ?_
          refine SW.getI (q := 161) (i := 59) fX8_7 rfl rfl dX8_reckon_158 rfl ?_
          refine SW.imul (q := 162) dX8_reckon_161 rfl ?_
          refine SW.icmp_ge (q := 165) (tgt := 214) dX8_reckon_162 (by decide) rfl (fun c162 => absurd c162 ((by rw [en, pk_mul]; exact nI_ge (by omega) (by omega)))) (fun _ => ?_)
          refine SW.aload_n (q := 166) (i := 0) dX8_reckon_165 rfl rfl rfl ?_
          refine SW.getR (q := 169) (i := 59) (j := 76) fX8_62 rfl rfl dX8_reckon_166 rfl ?_
          refine SW.iload_n (q := 170) (i := 3) dX8_reckon_169 rfl rfl rfl ?_
          refine SW.zaldN (q := 171) (k := p) rfl (rfl) (by omega) (by decide) dX8_reckon_170 rfl ?_
          refine SW.if_ne (q := 174) (tgt := 206) dX8_reckon_171 (by decide) rfl (fun c171 => absurd (((hS p hp).2 hs)) c171) (fun _ => ?_)
          refine SW.aload_n (q := 175) (i := 0) dX8_reckon_174 rfl rfl rfl ?_
          refine SW.getR (q := 178) (i := 59) (j := 75) fX8_59 rfl rfl dX8_reckon_175 rfl ?_
          refine SW.iload_n (q := 179) (i := 3) dX8_reckon_178 rfl rfl rfl ?_
          refine SW.ialdN (q := 180) (k := p) rfl (rfl) (by omega) (by decide) dX8_reckon_179 rfl ?_
          refine SW.if_lt (q := 183) (tgt := 206) dX8_reckon_180 (by decide) rfl (fun c180 => absurd c180 ((by rw [lp]; exact nI_pos (by omega)))) (fun _ => ?_)
          refine SW.iload_n (q := 184) (i := 2) dX8_reckon_183 rfl rfl rfl ?_
          refine SW.if_lt (q := 187) (tgt := 202) dX8_reckon_184 (by decide) rfl (fun _ => ?_) (fun c184 => absurd ((by decide)) c184)
          refine SW.iload_n (q := 203) (i := 3) dX8_reckon_202 rfl rfl rfl ?_
          refine SW.goto (q := 207) dX8_reckon_203 (by decide) ?_
          refine SW.istore_n (q := 208) (i := 2) dX8_reckon_207 rfl (by decide) rfl ?_
          refine SW.iinc (q := 211) (v := _ + 1) dX8_reckon_208 rfl rfl (by decide) rfl ?_
          refine SW.goto (q := 152) dX8_reckon_211 (by decide) ?_
          refine SW.eq (by rw [nI_1]; rfl) rfl rfl (take ⟨by omega, hs, c, hd, fun v c' hv hs' e' => ?_⟩ _ _)
          by_cases e : v = p
          · subst e; rw [hd] at e'; cases e'; exact Nat.le_refl _
          · rw [hb v (by omega) hs'] at e'; cases e'
        | some b =>
          obtain ⟨b1, b2, c1, b3, b4⟩ := hb
          have bi : gr_v (some b) = nI b := rfl
          have lb : τ 75 b = nI c1 := by rw [hl b (by omega), b3]; rfl
          have cb1 := hbd b c1 b3
          by_cases hlt : c < c1
          · refine SW.iload_n (q := 153) (i := 3) dX8_reckon_152 rfl rfl rfl ?_
            refine SW.aload_n (q := 154) (i := 0) dX8_reckon_153 rfl rfl rfl ?_
            refine SW.getI (q := 157) (i := 59) fX8_7 rfl rfl dX8_reckon_154 rfl ?_
            refine SW.aload_n (q := 158) (i := 0) dX8_reckon_157 rfl rfl rfl ?_
            refine SW.getI (q := 161) (i := 59) fX8_7 rfl rfl dX8_reckon_158 rfl ?_
            refine SW.imul (q := 162) dX8_reckon_161 rfl ?_
            refine SW.icmp_ge (q := 165) (tgt := 214) dX8_reckon_162 (by decide) rfl (fun c162 => absurd c162 ((by rw [en, pk_mul]; exact nI_ge (by omega) (by omega)))) (fun _ => ?_)
            refine SW.aload_n (q := 166) (i := 0) dX8_reckon_165 rfl rfl rfl ?_
            refine SW.getR (q := 169) (i := 59) (j := 76) fX8_62 rfl rfl dX8_reckon_166 rfl ?_
            refine SW.iload_n (q := 170) (i := 3) dX8_reckon_169 rfl rfl rfl ?_
            refine SW.zaldN (q := 171) (k := p) rfl (rfl) (by omega) (by decide) dX8_reckon_170 rfl ?_
            refine SW.if_ne (q := 174) (tgt := 206) dX8_reckon_171 (by decide) rfl (fun c171 => absurd (((hS p hp).2 hs)) c171) (fun _ => ?_)
            refine SW.aload_n (q := 175) (i := 0) dX8_reckon_174 rfl rfl rfl ?_
            refine SW.getR (q := 178) (i := 59) (j := 75) fX8_59 rfl rfl dX8_reckon_175 rfl ?_
            refine SW.iload_n (q := 179) (i := 3) dX8_reckon_178 rfl rfl rfl ?_
            refine SW.ialdN (q := 180) (k := p) rfl (rfl) (by omega) (by decide) dX8_reckon_179 rfl ?_
            refine SW.if_lt (q := 183) (tgt := 206) dX8_reckon_180 (by decide) rfl (fun c180 => absurd c180 ((by rw [lp]; exact nI_pos (by omega)))) (fun _ => ?_)
            refine SW.iload_n (q := 184) (i := 2) dX8_reckon_183 rfl rfl rfl ?_
            refine SW.if_lt (q := 187) (tgt := 202) dX8_reckon_184 (by decide) rfl (fun c184 => absurd c184 ((by rw [bi]; exact nI_pos (by omega)))) (fun _ => ?_)
            refine SW.aload_n (q := 188) (i := 0) dX8_reckon_187 rfl rfl rfl ?_
            refine SW.getR (q := 191) (i := 59) (j := 75) fX8_59 rfl rfl dX8_reckon_188 rfl ?_
            refine SW.iload_n (q := 192) (i := 3) dX8_reckon_191 rfl rfl rfl ?_
            refine SW.ialdN (q := 193) (k := p) rfl (rfl) (by omega) (by decide) dX8_reckon_192 rfl ?_
            refine SW.aload_n (q := 194) (i := 0) dX8_reckon_193 rfl rfl rfl ?_
            refine SW.getR (q := 197) (i := 59) (j := 75) fX8_59 rfl rfl dX8_reckon_194 rfl ?_
            refine SW.iload_n (q := 198) (i := 2) dX8_reckon_197 rfl rfl rfl ?_
            refine SW.ialdN (q := 199) (k := b) rfl (rfl) (by omega) (by decide) dX8_reckon_198 rfl ?_
            refine SW.icmp_ge (q := 202) (tgt := 206) dX8_reckon_199 (by decide) rfl (fun c199 => absurd c199 ((by rw [lp, lb]; exact nI_ge hlt (by omega)))) (fun _ => ?_)
            refine SW.iload_n (q := 203) (i := 3) dX8_reckon_202 rfl rfl rfl ?_
            refine SW.goto (q := 207) dX8_reckon_203 (by decide) ?_
            refine SW.istore_n (q := 208) (i := 2) dX8_reckon_207 rfl (by decide) rfl ?_
            refine SW.iinc (q := 211) (v := _ + 1) dX8_reckon_208 rfl rfl (by decide) rfl ?_
            refine SW.goto (q := 152) dX8_reckon_211 (by decide) ?_
            refine SW.eq (by rw [nI_1]; rfl) rfl rfl (take ⟨by omega, hs, c, hd, fun v c' hv hs' e' => ?_⟩ _ _)
            by_cases e : v = p
            · subst e; rw [hd] at e'; cases e'; exact Nat.le_refl _
            · have := b4 v c' (by omega) hs' e'; omega
          · refine SW.iload_n (q := 153) (i := 3) dX8_reckon_152 rfl rfl rfl ?_
            refine SW.aload_n (q := 154) (i := 0) dX8_reckon_153 rfl rfl rfl ?_
            refine SW.getI (q := 157) (i := 59) fX8_7 rfl rfl dX8_reckon_154 rfl ?_
            refine SW.aload_n (q := 158) (i := 0) dX8_reckon_157 rfl rfl rfl ?_
            refine SW.getI (q := 161) (i := 59) fX8_7 rfl rfl dX8_reckon_158 rfl ?_
            refine SW.imul (q := 162) dX8_reckon_161 rfl ?_
            refine SW.icmp_ge (q := 165) (tgt := 214) dX8_reckon_162 (by decide) rfl (fun c162 => absurd c162 ((by rw [en, pk_mul]; exact nI_ge (by omega) (by omega)))) (fun _ => ?_)
            refine SW.aload_n (q := 166) (i := 0) dX8_reckon_165 rfl rfl rfl ?_
            refine SW.getR (q := 169) (i := 59) (j := 76) fX8_62 rfl rfl dX8_reckon_166 rfl ?_
            refine SW.iload_n (q := 170) (i := 3) dX8_reckon_169 rfl rfl rfl ?_
            refine SW.zaldN (q := 171) (k := p) rfl (rfl) (by omega) (by decide) dX8_reckon_170 rfl ?_
            refine SW.if_ne (q := 174) (tgt := 206) dX8_reckon_171 (by decide) rfl (fun c171 => absurd (((hS p hp).2 hs)) c171) (fun _ => ?_)
            refine SW.aload_n (q := 175) (i := 0) dX8_reckon_174 rfl rfl rfl ?_
            refine SW.getR (q := 178) (i := 59) (j := 75) fX8_59 rfl rfl dX8_reckon_175 rfl ?_
            refine SW.iload_n (q := 179) (i := 3) dX8_reckon_178 rfl rfl rfl ?_
            refine SW.ialdN (q := 180) (k := p) rfl (rfl) (by omega) (by decide) dX8_reckon_179 rfl ?_
            refine SW.if_lt (q := 183) (tgt := 206) dX8_reckon_180 (by decide) rfl (fun c180 => absurd c180 ((by rw [lp]; exact nI_pos (by omega)))) (fun _ => ?_)
            refine SW.iload_n (q := 184) (i := 2) dX8_reckon_183 rfl rfl rfl ?_
            refine SW.if_lt (q := 187) (tgt := 202) dX8_reckon_184 (by decide) rfl (fun c184 => absurd c184 ((by rw [bi]; exact nI_pos (by omega)))) (fun _ => ?_)
            refine SW.aload_n (q := 188) (i := 0) dX8_reckon_187 rfl rfl rfl ?_
            refine SW.getR (q := 191) (i := 59) (j := 75) fX8_59 rfl rfl dX8_reckon_188 rfl ?_
            refine SW.iload_n (q := 192) (i := 3) dX8_reckon_191 rfl rfl rfl ?_
            refine SW.ialdN (q := 193) (k := p) rfl (rfl) (by omega) (by decide) dX8_reckon_192 rfl ?_
            refine SW.aload_n (q := 194) (i := 0) dX8_reckon_193 rfl rfl rfl ?_
            refine SW.getR (q := 197) (i := 59) (j := 75) fX8_59 rfl rfl dX8_reckon_194 rfl ?_
            refine SW.iload_n (q := 198) (i := 2) dX8_reckon_197 rfl rfl rfl ?_
            refine SW.ialdN (q := 199) (k := b) rfl (rfl) (by omega) (by decide) dX8_reckon_198 rfl ?_
            refine SW.icmp_ge (q := 202) (tgt := 206) dX8_reckon_199 (by decide) rfl (fun _ => ?_) (fun c199 => absurd ((by rw [lp, lb]; exact nI_le (by omega) (by omega))) c199)
            refine SW.iload_n (q := 207) (i := 2) dX8_reckon_206 rfl rfl rfl ?_
            refine SW.istore_n (q := 208) (i := 2) dX8_reckon_207 rfl (by decide) rfl ?_
            refine SW.iinc (q := 211) (v := _ + 1) dX8_reckon_208 rfl rfl (by decide) rfl ?_
            refine SW.goto (q := 152) dX8_reckon_211 (by decide) ?_
            refine SW.eq (by rw [nI_1]; rfl) rfl rfl (keep ⟨by omega, b2, c1, b3, fun v c' hv hs' e' => ?_⟩ _ _)
            by_cases e : v = p
            · subst e; rw [hd] at e'; cases e'; omega
            · exact b4 v c' (by omega) hs' e'
theorem C_X8_reckon (hG : rk_G n h kd br σ) (hx : x = nI s) (hs : s < n * n) :
    sw_Mv X 2 mX8_reckon [.ref (sw_ad X 59), .int x] σ (fun u => fr_ [75, 76] σ u ∧ ∃ d, nt_ok n h kd br s d ∧ nt_lf n d u) := by
  subst hx
  have n24 : n ≤ 24 := hG.1.2.1
  have h576 := gr_576 n24
  have en : σ 59 1 = nI n := hG.1.2.2
  refine sw_ME.ofF (by decide +kernel) rfl (Nat.le_of_ble_eq_true rfl) rfl ?_
  have loop : ∀ (k K : Nat), K + k = n * n → ∀ (b : Option Nat) (A C D : Value) (τ : sw_Sg) (r : Nat) (Z : Nat → Nat) (d : Nat → Option Nat), fr_ [75, 76] σ τ → nt_lf n d τ → rk_dn n (wt_tk Z K) τ → (∀ i, i < K → Z i < n * n) → (∀ i j, i < K → j < K → Z i = Z j → i = j) → nt_C n h kd br s (wt_tk Z K) d r (510 * K) → (∀ u, wt_tk Z K u → nt_cl n h kd br d u) → rk_b (wt_tk Z K) d (n * n) b →
      SW X 2 mX8_reckon sw_E0 (sw_Rv (fun u => fr_ [75, 76] σ u ∧ ∃ d, nt_ok n h kd br s d ∧ nt_lf n d u)) 44 [.ref (sw_ad X 59), .int (nI s), .int (gr_v b), A, C, D] [] τ := by
    intro k
    induction k with
    | zero =>
      intro K hKk b A C D τ r Z d hf hl hdn hZ hZi hC hcl hb
      cases b with
      | none =>
        refine SW.iload_n (q := 45) (i := 2) dX8_reckon_44 rfl rfl rfl ?_
        refine SW.if_lt (q := 48) (tgt := 217) dX8_reckon_45 (by decide) rfl (fun _ => ?_) (fun c45 => absurd ((by decide)) c45)
        refine SW.vretR rfl dX8_reckon_217 ?_
        refine ⟨hf, d, ⟨hC.1, fun v c e => ?_, fun u c v e ha hp => ?_⟩, hl⟩
        · obtain ⟨a1, a2, a3⟩ := hC.2.1 v c e
          exact ⟨a1, by omega, a3⟩
        · by_cases hu : wt_tk Z K u
          · exact hcl u hu c v e ha hp
          · rw [hb u (hC.2.1 u c e).1 hu] at e; cases e
      | some q =>
        exfalso
        obtain ⟨q1, q2, -⟩ := hb
        obtain rfl : K = n * n := by omega
        obtain ⟨i, i1, i2⟩ := wt_pig (n * n) Z hZ hZi q q1
        exact q2 ⟨i, i1, i2⟩
    | succ k ih =>
      intro K hKk b A C D τ r Z d hf hl hdn hZ hZi hC hcl hb
      cases b with
      | none =>
        refine SW.iload_n (q := 45) (i := 2) dX8_reckon_44 rfl rfl rfl ?_
        refine SW.if_lt (q := 48) (tgt := 217) dX8_reckon_45 (by decide) rfl (fun _ => ?_) (fun c45 => absurd ((by decide)) c45)
        refine SW.vretR rfl dX8_reckon_217 ?_
        refine ⟨hf, d, ⟨hC.1, fun v c e => ?_, fun u c v e ha hp => ?_⟩, hl⟩
        · obtain ⟨a1, a2, a3⟩ := hC.2.1 v c e
          exact ⟨a1, by omega, a3⟩
        · by_cases hu : wt_tk Z K u
          · exact hcl u hu c v e ha hp
          · rw [hb u (hC.2.1 u c e).1 hu] at e; cases e
      | some q =>
        obtain ⟨q2, hqS, ρ, q4, low⟩ := hb
        have bi : gr_v (some q) = nI q := rfl
        have hZ' : ∀ i, i < K + 1 → va_up Z K q i < n * n := by
          intro i hi
          by_cases z : i = K
          · subst z; rw [up_i]; exact q2
          · rw [up_o z]; exact hZ i (by omega)
        have hZi' : ∀ i j, i < K + 1 → j < K + 1 → va_up Z K q i = va_up Z K q j → i = j := by
          intro i j hi hj e
          by_cases z : i = K
          · by_cases z2 : j = K
            · omega
            · subst z
              rw [up_i, up_o z2] at e
              exact absurd ⟨j, by omega, e.symm⟩ hqS
          · by_cases z2 : j = K
            · subst z2
              rw [up_i, up_o z] at e
              exact absurd ⟨i, by omega, e⟩ hqS
            · rw [up_o z, up_o z2] at e
              exact hZi i j (by omega) (by omega) e
        have sub : ∀ v, wt_tk Z K v → wt_tk (va_up Z K q) (K + 1) v := fun v hv => wt_tk_snoc.mpr (Or.inl hv)
        have hqS' : wt_tk (va_up Z K q) (K + 1) q := wt_tk_snoc.mpr (Or.inr rfl)
        have rρ : r ≤ ρ := hC.2.2.2 q ρ q4 hqS
        have hC2 : nt_C n h kd br s (wt_tk (va_up Z K q) (K + 1)) d ρ (510 * (K + 1)) := by
          refine ⟨hC.1, fun v c e => ?_, fun v hv => ?_, fun v c1 e hv => low v c1 (hC.2.1 v c1 e).1 (fun z => hv (sub v z)) e⟩
          · obtain ⟨a1, a2, a3⟩ := hC.2.1 v c e
            exact ⟨a1, by omega, a3⟩
          · rcases wt_tk_snoc.mp hv with hv | rfl
            · obtain ⟨c1, e1, l1⟩ := hC.2.2.1 v hv
              exact ⟨c1, e1, by omega⟩
            · exact ⟨ρ, q4, Nat.le_refl _⟩
        have ρM := (hC.2.1 q ρ q4).2.1
        have hdn' : rk_dn n (wt_tk (va_up Z K q) (K + 1)) (sw_up τ 76 q 1) := by
          intro v hv
          by_cases z : v = q
          · subst z
            exact ⟨fun _ => sw_i1, fun z => absurd hqS' z⟩
          · rw [sw_o1 z]
            refine ⟨fun h => (hdn v hv).1 ((wt_tk_snoc.mp h).resolve_right (fun e => z e)), fun h => (hdn v hv).2 (fun e => h (sub v e))⟩
        have hf1 : fr_ [75, 76] σ (sw_up τ 76 q 1) := fr_up hf (by decide)
        refine SW.iload_n (q := 45) (i := 2) dX8_reckon_44 rfl rfl rfl ?_
        refine SW.if_lt (q := 48) (tgt := 217) dX8_reckon_45 (by decide) rfl (fun c45 => absurd c45 ((by rw [bi]; exact nI_pos (by omega)))) (fun _ => ?_)
        refine SW.aload_n (q := 49) (i := 0) dX8_reckon_48 rfl rfl rfl ?_
        refine SW.getR (q := 52) (i := 59) (j := 76) fX8_62 rfl rfl dX8_reckon_49 rfl ?_
        refine SW.iload_n (q := 53) (i := 2) dX8_reckon_52 rfl rfl rfl ?_
        refine SW.iconst (q := 54) (v := 1) dX8_reckon_53 (by decide) rfl ?_
        refine SW.zastN (q := 55) (k := q) rfl (rfl) (by omega) (by decide) rfl dX8_reckon_54 rfl ?_
        refine SW.iconst (q := 56) (v := 0) dX8_reckon_55 (by decide) rfl ?_
        refine SW.istore_n (q := 57) (i := 3) dX8_reckon_56 rfl (by decide) rfl ?_
        refine rk_edge (M := 510 * (K + 1)) (hG.fr hf1 (by decide) (by decide) (by decide) (by decide)) hC2 hqS' q4 (fun v hv => by rw [sw_un (by decide)]; exact hl v hv) (by omega) (by omega) (fun u d' g1 g2 g3 g4 g5 g6 B C D => ?_) _ _
        have hf2 : fr_ [75, 76] σ u := fr_tr hf1 g1 (by decide)
        have hdn2 : rk_dn n (wt_tk (va_up Z K q) (K + 1)) u := fun v hv => by rw [g1 76 (by decide)]; exact hdn' v hv
        refine SW.bipush (q := 149) (v := (-6)) dX8_reckon_147 (by decide) rfl ?_
        refine SW.istore_n (q := 150) (i := 2) dX8_reckon_149 rfl (by decide) rfl ?_
        refine SW.iconst (q := 151) (v := 0) dX8_reckon_150 (by decide) rfl ?_
        refine SW.istore_n (q := 152) (i := 3) dX8_reckon_151 rfl (by decide) rfl ?_
        refine rk_scan (hG.1.fr hf2 (by decide)) g2 hdn2 (fun v c e => by have := (g3.2.1 v c e).2.1; omega) (fun b hb A C D => ?_) (n * n) 0 (by omega) none C D (fun v hv => absurd hv (Nat.not_lt_zero _))
        refine ih (K + 1) (by omega) b A C D u ρ (va_up Z K q) d' hf2 g2 hdn2 hZ' hZi' g3 (fun w hw => ?_) hb
        rcases wt_tk_snoc.mp hw with hw2 | rfl
        · exact (hcl w hw2).dn g4 (g5 w hw)
        · exact g6
  have init : ∀ (k p : Nat), p + k = n * n → ∀ (B C D : Value) (τ : sw_Sg), fr_ [75, 76] σ τ → (∀ v, v < p → τ 75 v = -1 ∧ τ 76 v = 0) →
      SW X 2 mX8_reckon sw_E0 (sw_Rv (fun u => fr_ [75, 76] σ u ∧ ∃ d, nt_ok n h kd br s d ∧ nt_lf n d u)) 2 [.ref (sw_ad X 59), .int (nI s), .int (nI p), B, C, D] [] τ := by
    intro k
    induction k with
    | zero =>
      intro p hpk B C D τ hf hI
      obtain rfl : p = n * n := by omega
      refine SW.iload_n (q := 3) (i := 2) dX8_reckon_2 rfl rfl rfl ?_
      refine SW.aload_n (q := 4) (i := 0) dX8_reckon_3 rfl rfl rfl ?_
      refine SW.getI (q := 7) (i := 59) fX8_7 rfl rfl dX8_reckon_4 rfl ?_
      refine SW.aload_n (q := 8) (i := 0) dX8_reckon_7 rfl rfl rfl ?_
      refine SW.getI (q := 11) (i := 59) fX8_7 rfl rfl dX8_reckon_8 rfl ?_
      refine SW.imul (q := 12) dX8_reckon_11 rfl ?_
      refine SW.icmp_ge (q := 15) (tgt := 35) dX8_reckon_12 (by decide) rfl (fun _ => ?_) (fun c12 => absurd ((by rw [hf 59 (by decide), en, pk_mul]; exact Int32.le_refl _)) c12)
      refine SW.aload_n (q := 36) (i := 0) dX8_reckon_35 rfl rfl rfl ?_
      refine SW.getR (q := 39) (i := 59) (j := 75) fX8_59 rfl rfl dX8_reckon_36 rfl ?_
      refine SW.iload_n (q := 40) (i := 1) dX8_reckon_39 rfl rfl rfl ?_
      refine SW.iconst (q := 41) (v := 0) dX8_reckon_40 (by decide) rfl ?_
      refine SW.iastN (q := 42) (k := s) rfl (rfl) (by omega) (by decide) dX8_reckon_41 rfl ?_
      refine SW.iload_n (q := 43) (i := 1) dX8_reckon_42 rfl rfl rfl ?_
      refine SW.istore_n (q := 44) (i := 2) dX8_reckon_43 rfl (by decide) rfl ?_
      refine loop (n * n) 0 (by omega) (some s) _ _ _ _ 0 (fun _ => 0) (nt_d0 s) (fr_up hf (by decide)) (fun v hv => ?_) (fun v hv => ⟨fun ⟨i, i1, _⟩ => absurd i1 (Nat.not_lt_zero _), fun _ => ?_⟩) (fun i hi => absurd hi (Nat.not_lt_zero _)) (fun i j hi => absurd hi (Nat.not_lt_zero _)) ⟨nt_d0_i, fun v c e => ?_, fun v ⟨i, i1, _⟩ => absurd i1 (Nat.not_lt_zero _), fun v c _ _ => Nat.zero_le _⟩ (fun u ⟨i, i1, _⟩ => absurd i1 (Nat.not_lt_zero _)) ⟨hs, fun ⟨i, i1, _⟩ => absurd i1 (Nat.not_lt_zero _), 0, nt_d0_i, fun _ _ _ _ _ => Nat.zero_le _⟩
      · by_cases z : v = s
        · subst z; rw [sw_i1, nt_d0_i]; rfl
        · rw [sw_o1 z, (hI v hv).1, nt_d0_o z]; rfl
      · rw [sw_un (by decide)]; exact (hI v hv).2
      · by_cases z : v = s
        · subst z; rw [nt_d0_i] at e; cases e; exact ⟨hs, Nat.zero_le _, 0, rfl, rfl⟩
        · rw [nt_d0_o z] at e; cases e
    | succ k ih =>
      intro p hpk B C D τ hf hI
      refine SW.iload_n (q := 3) (i := 2) dX8_reckon_2 rfl rfl rfl ?_
      refine SW.aload_n (q := 4) (i := 0) dX8_reckon_3 rfl rfl rfl ?_
      refine SW.getI (q := 7) (i := 59) fX8_7 rfl rfl dX8_reckon_4 rfl ?_
      refine SW.aload_n (q := 8) (i := 0) dX8_reckon_7 rfl rfl rfl ?_
      refine SW.getI (q := 11) (i := 59) fX8_7 rfl rfl dX8_reckon_8 rfl ?_
      refine SW.imul (q := 12) dX8_reckon_11 rfl ?_
      refine SW.icmp_ge (q := 15) (tgt := 35) dX8_reckon_12 (by decide) rfl (fun c12 => absurd c12 ((by rw [hf 59 (by decide), en, pk_mul]; exact nI_ge (by omega) (by omega)))) (fun _ => ?_)
      refine SW.aload_n (q := 16) (i := 0) dX8_reckon_15 rfl rfl rfl ?_
      refine SW.getR (q := 19) (i := 59) (j := 75) fX8_59 rfl rfl dX8_reckon_16 rfl ?_
      refine SW.iload_n (q := 20) (i := 2) dX8_reckon_19 rfl rfl rfl ?_
      refine SW.iconst (q := 21) (v := (-1)) dX8_reckon_20 (by decide) rfl ?_
      refine SW.iastN (q := 22) (k := p) rfl (rfl) (by omega) (by decide) dX8_reckon_21 rfl ?_
      refine SW.aload_n (q := 23) (i := 0) dX8_reckon_22 rfl rfl rfl ?_
      refine SW.getR (q := 26) (i := 59) (j := 76) fX8_62 rfl rfl dX8_reckon_23 rfl ?_
      refine SW.iload_n (q := 27) (i := 2) dX8_reckon_26 rfl rfl rfl ?_
      refine SW.iconst (q := 28) (v := 0) dX8_reckon_27 (by decide) rfl ?_
      refine SW.zastN (q := 29) (k := p) rfl (rfl) (by omega) (by decide) rfl dX8_reckon_28 rfl ?_
      refine SW.iinc (q := 32) (v := _ + 1) dX8_reckon_29 rfl rfl (by decide) rfl ?_
      refine SW.goto (q := 2) dX8_reckon_32 (by decide) ?_
      refine SW.eq (by rw [nI_1]; rfl) rfl rfl (ih (p + 1) (by omega) _ _ _ _ (fr_up (fr_up hf (by decide)) (by decide)) (fun v hv => ?_))
      by_cases z : v = p
      · subst z; exact ⟨by rw [sw_un (by decide), sw_i1], sw_i1⟩
      · exact ⟨by rw [sw_un (by decide), sw_o1 z]; exact (hI v (by omega)).1, by rw [sw_o1 z, sw_un (by decide)]; exact (hI v (by omega)).2⟩
  refine SW.iconst (q := 1) (v := 0) dX8_reckon_0 (by decide) rfl ?_
  refine SW.istore_n (q := 2) (i := 2) dX8_reckon_1 rfl (by decide) rfl ?_
  exact init (n * n) 0 (by omega) _ _ _ σ fr_rf (fun v hv => absurd hv (Nat.not_lt_zero _))
end RECKON
