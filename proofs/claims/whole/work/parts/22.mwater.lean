/-! WATER in the reference: heights, outlets, the others, flows, kinds -/
section MWATER
variable {X : sw_X} {R : Option Value → sw_Sg → Prop} {σ : sw_Sg} {x y v w st : Int32} {n p q K a b c l o m sea : Nat} {h T lv od O : Nat → Nat} {D : Nat → Option Nat} {r : Option Nat}
theorem mw_heights (hM : gr_M σ n) (e2 : σ 59 2 = nI a) (e3 : σ 59 3 = nI b) (ha : a ≤ 100000) (hb : b ≤ 100000) (hc : σ 59 6 = nI c) (c30 : c ≤ 30) (hh : ∀ p, p < n * n → gr_ht (σ 59 0) (σ 61) (σ 62) (σ 63) c a b n p = nI (h p) ∧ h p ≤ 400)
    (kk : ∀ (A B C : Value) (u : sw_Sg), fr_ [64, 67] σ u → (∀ p, p < n * n → u 64 p = nI (h p) ∧ u 67 p = -6) → SW X 3 mX8_layWater sw_E0 R 158 [.ref (sw_ad X 59), .int (nI (n * n)), A, B, C] [] u) :
    ∀ (k p : Nat), p + k = n * n → ∀ (A B C : Value) (τ : sw_Sg), fr_ [64, 67] σ τ → (∀ q, q < p → τ 64 q = nI (h q) ∧ τ 67 q = -6) → SW X 3 mX8_layWater sw_E0 R 7 [.ref (sw_ad X 59), .int (nI p), A, B, C] [] τ := by
  have n24 : n ≤ 24 := hM.2.1
  have h576 := gr_576 n24
  have n4 := hM.1
  intro k
  induction k with
  | zero =>
    intro p hpk A B C τ hf hI
    obtain rfl : p = n * n := by omega
    refine SW.iload_n (q := 8) (i := 1) dX8_layWater_7 rfl rfl rfl ?_
    refine SW.aload_n (q := 9) (i := 0) dX8_layWater_8 rfl rfl rfl ?_
    refine SW.getI (q := 12) (i := 59) fX8_7 rfl rfl dX8_layWater_9 rfl ?_
    refine SW.aload_n (q := 13) (i := 0) dX8_layWater_12 rfl rfl rfl ?_
    refine SW.getI (q := 16) (i := 59) fX8_7 rfl rfl dX8_layWater_13 rfl ?_
    refine SW.imul (q := 17) dX8_layWater_16 rfl ?_
    refine SW.icmp_ge (q := 20) (tgt := 158) dX8_layWater_17 (by decide) rfl (fun _ => ?_) (fun c17 => absurd ((by rw [hf 59 (by decide), hM.2.2, pk_mul]; exact Int32.le_refl _)) c17)
    exact kk A B C τ hf hI
  | succ k ih =>
    intro p hpk A B C τ hf hI
    have hp : p < n * n := by omega
    obtain ⟨l1, l2, l3⟩ := gr_lt hp
    have en : τ 59 1 = nI n := by rw [hf 59 (by decide)]; exact hM.2.2
    have ex : nI p - nI p / nI n * nI n = nI (p % n) := pk_rem (by omega) l3 (by omega)
    have ey : nI p / nI n = nI (p / n) := pk_div (by omega) l3 (by omega)
    have hne : ¬ τ 59 1 = 0 := by rw [en]; exact nI_ne0 l3 (by omega)
    have px : τ 59 2 + (nI p - nI p / τ 59 1 * τ 59 1) = nI (a + p % n) := by rw [en, ex, hf 59 (by decide), e2, nI_add]
    have py : τ 59 3 + nI p / τ 59 1 = nI (b + p / n) := by rw [en, ey, hf 59 (by decide), e3, nI_add]
    have inner : ∀ (k2 k1 : Nat), k1 + k2 = c → ∀ (C : Value), SW X 3 mX8_layWater sw_E0 R 49 [.ref (sw_ad X 59), .int (nI p), .int (gr_hs (σ 61) (σ 62) (σ 63) (nI (gr_g (σ 59 0) (a + p % n) (b + p / n))) (nI (a + p % n)) (nI (b + p / n)) k1), .int (nI k1), C] [] τ := by
      intro k2
      induction k2 with
      | zero =>
        intro k1 hk C
        obtain rfl : k1 = c := by omega
        have hcl := gr_cl_e (gr_hs (σ 61) (σ 62) (σ 63) (nI (gr_g (σ 59 0) (a + p % n) (b + p / n))) (nI (a + p % n)) (nI (b + p / n)) k1)
        have hhp := (hh p hp).1
        have J : ∀ w : Int32, w = nI (h p) → ∀ (L : List Value), L = [.ref (sw_ad X 59), .int (nI p), .int (gr_hs (σ 61) (σ 62) (σ 63) (nI (gr_g (σ 59 0) (a + p % n) (b + p / n))) (nI (a + p % n)) (nI (b + p / n)) k1), .int (nI k1), C] → SW X 3 mX8_layWater sw_E0 R 143 L [.int w, .int (nI p), .ref (sw_ad X 64)] τ := by
          rintro w rfl L rfl
          refine SW.iastN (q := 144) (k := p) rfl (rfl) (by omega) (by decide) dX8_layWater_143 rfl ?_
          refine SW.aload_n (q := 145) (i := 0) dX8_layWater_144 rfl rfl rfl ?_
          refine SW.getR (q := 148) (i := 59) (j := 67) fX8_35 rfl rfl dX8_layWater_145 rfl ?_
          refine SW.iload_n (q := 149) (i := 1) dX8_layWater_148 rfl rfl rfl ?_
          refine SW.bipush (q := 151) (v := (-6)) dX8_layWater_149 (by decide) rfl ?_
          refine SW.iastN (q := 152) (k := p) rfl (rfl) (by omega) (by decide) dX8_layWater_151 rfl ?_
          refine SW.iinc (q := 155) (v := _ + 1) dX8_layWater_152 rfl rfl (by decide) rfl ?_
          refine SW.goto (q := 7) dX8_layWater_155 (by decide) ?_
          refine SW.eq (by rw [nI_1]; rfl) rfl rfl (ih (p + 1) (by omega) _ _ _ _ (fr_up (fr_up hf (by decide)) (by decide)) (fun q hq => ?_))
          rw [sw_un (show 64 ≠ 67 by decide)]
          by_cases z : q = p
          · subst z; rw [sw_i1, sw_i1]; exact ⟨rfl, rfl⟩
          · rw [sw_o1 z, sw_o1 z, sw_un (by decide)]; exact hI q (by omega)
        refine SW.iload_n (q := 50) (i := 3) dX8_layWater_49 rfl rfl rfl ?_
        refine SW.aload_n (q := 51) (i := 0) dX8_layWater_50 rfl rfl rfl ?_
        refine SW.getI (q := 54) (i := 59) fX8_108 rfl rfl dX8_layWater_51 rfl ?_
        refine SW.icmp_ge (q := 57) (tgt := 116) dX8_layWater_54 (by decide) rfl (fun _ => ?_) (fun c54 => absurd ((by rw [hf 59 (by decide), hc]; exact Int32.le_refl _)) c54)
        refine SW.aload_n (q := 117) (i := 0) dX8_layWater_116 rfl rfl rfl ?_
        refine SW.getR (q := 120) (i := 59) (j := 64) fX8_26 rfl rfl dX8_layWater_117 rfl ?_
        refine SW.iload_n (q := 121) (i := 1) dX8_layWater_120 rfl rfl rfl ?_
        refine SW.iload_n (q := 122) (i := 2) dX8_layWater_121 rfl rfl rfl ?_
        refine SW.if_ge (q := 125) (tgt := 129) dX8_layWater_122 (by decide) rfl (fun c122 => ?_) (fun c122 => ?_)
        · refine SW.iload_n (q := 130) (i := 2) dX8_layWater_129 rfl rfl rfl ?_
          refine SW.sipush (q := 133) (v := 400) dX8_layWater_130 (by decide) rfl ?_
          refine SW.icmp_le (q := 136) (tgt := 142) dX8_layWater_133 (by decide) rfl (fun c133 => ?_) (fun c133 => ?_)
          · refine SW.iload_n (q := 143) (i := 2) dX8_layWater_142 rfl rfl rfl ?_
            first
            | exact J _ (by rw [← hhp, gr_ht, ← hcl, if_neg (Int32.not_lt.mpr c122), if_pos (Int32.not_le.mp c133)]) _ rfl
            | exact J _ (by rw [← hhp, gr_ht, ← hcl, if_neg (Int32.not_lt.mpr c122), if_neg (Int32.not_lt.mpr c133)]) _ rfl
            | exact J _ (by rw [← hhp, gr_ht, ← hcl, if_pos (Int32.not_le.mp c122)]) _ rfl
          · refine SW.sipush (q := 139) (v := 400) dX8_layWater_136 (by decide) rfl ?_
            refine SW.goto (q := 143) dX8_layWater_139 (by decide) ?_
            first
            | exact J _ (by rw [← hhp, gr_ht, ← hcl, if_neg (Int32.not_lt.mpr c122), if_pos (Int32.not_le.mp c133)]) _ rfl
            | exact J _ (by rw [← hhp, gr_ht, ← hcl, if_neg (Int32.not_lt.mpr c122), if_neg (Int32.not_lt.mpr c133)]) _ rfl
            | exact J _ (by rw [← hhp, gr_ht, ← hcl, if_pos (Int32.not_le.mp c122)]) _ rfl
        · refine SW.iconst (q := 126) (v := 0) dX8_layWater_125 (by decide) rfl ?_
          refine SW.goto (q := 143) dX8_layWater_126 (by decide) ?_
          first
          | exact J _ (by rw [← hhp, gr_ht, ← hcl, if_neg (Int32.not_lt.mpr c122), if_pos (Int32.not_le.mp c133)]) _ rfl
          | exact J _ (by rw [← hhp, gr_ht, ← hcl, if_neg (Int32.not_lt.mpr c122), if_neg (Int32.not_lt.mpr c133)]) _ rfl
          | exact J _ (by rw [← hhp, gr_ht, ← hcl, if_pos (Int32.not_le.mp c122)]) _ rfl
      | succ k2 ih2 =>
        intro k1 hk C
        have e61 : τ 61 k1 = σ 61 k1 := by rw [hf 61 (by decide)]
        have e62 : τ 62 k1 = σ 62 k1 := by rw [hf 62 (by decide)]
        have e63 : τ 63 k1 = σ 63 k1 := by rw [hf 63 (by decide)]
        refine SW.iload_n (q := 50) (i := 3) dX8_layWater_49 rfl rfl rfl ?_
        refine SW.aload_n (q := 51) (i := 0) dX8_layWater_50 rfl rfl rfl ?_
        refine SW.getI (q := 54) (i := 59) fX8_108 rfl rfl dX8_layWater_51 rfl ?_
        refine SW.icmp_ge (q := 57) (tgt := 116) dX8_layWater_54 (by decide) rfl (fun c54 => absurd c54 ((by rw [hf 59 (by decide), hc]; exact nI_ge (by omega) (by omega)))) (fun _ => ?_)
        refine SW.iload_n (q := 58) (i := 2) dX8_layWater_57 rfl rfl rfl ?_
        refine SW.aload_n (q := 59) (i := 0) dX8_layWater_58 rfl rfl rfl ?_
        refine SW.getR (q := 62) (i := 59) (j := 61) fX8_17 rfl rfl dX8_layWater_59 rfl ?_
        refine SW.iload_n (q := 63) (i := 3) dX8_layWater_62 rfl rfl rfl ?_
        refine SW.ialdN (q := 64) (k := k1) rfl (rfl) (by omega) (by decide) dX8_layWater_63 rfl ?_
        refine SW.aload_n (q := 65) (i := 0) dX8_layWater_64 rfl rfl rfl ?_
        refine SW.getI (q := 68) (i := 59) fX8_98 rfl rfl dX8_layWater_65 rfl ?_
        refine SW.iload_n (q := 69) (i := 1) dX8_layWater_68 rfl rfl rfl ?_
        refine SW.aload_n (q := 70) (i := 0) dX8_layWater_69 rfl rfl rfl ?_
        refine SW.getI (q := 73) (i := 59) fX8_7 rfl rfl dX8_layWater_70 rfl ?_
        refine SW.irem (q := 74) dX8_layWater_73 hne rfl ?_
        refine SW.iadd (q := 75) dX8_layWater_74 rfl ?_
        refine SW.icmp_ne (q := 78) (tgt := 107) dX8_layWater_75 (by decide) rfl (fun c75 => ?_) (fun c75 => ?_)
        · refine SW.iconst (q := 108) (v := 0) dX8_layWater_107 (by decide) rfl ?_
          refine SW.iadd (q := 109) dX8_layWater_108 rfl ?_
          refine SW.istore_n (q := 110) (i := 2) dX8_layWater_109 rfl (by decide) rfl ?_
          refine SW.iinc (q := 113) (v := _ + 1) dX8_layWater_110 rfl rfl (by decide) rfl ?_
          refine SW.goto (q := 49) dX8_layWater_113 (by decide) ?_
          first
          | refine SW.eq ?_ rfl rfl (ih2 (k1 + 1) (by omega) C)
            rw [px, e61] at c75
            first
            | rw [py, e62] at c95
              first
              | (rw [gr_hs, if_pos ⟨c75, c95⟩, nI_1, e63]; rfl)
              | (rw [gr_hs, if_neg (fun z => c95 z.2), nI_1, Int32.add_zero]; rfl)
            | (rw [gr_hs, if_neg (fun z => c75 z.1), nI_1, Int32.add_zero]; rfl)
        · refine SW.aload_n (q := 79) (i := 0) dX8_layWater_78 rfl rfl rfl ?_
          refine SW.getR (q := 82) (i := 59) (j := 62) fX8_20 rfl rfl dX8_layWater_79 rfl ?_
          refine SW.iload_n (q := 83) (i := 3) dX8_layWater_82 rfl rfl rfl ?_
          refine SW.ialdN (q := 84) (k := k1) rfl (rfl) (by omega) (by decide) dX8_layWater_83 rfl ?_
          refine SW.aload_n (q := 85) (i := 0) dX8_layWater_84 rfl rfl rfl ?_
          refine SW.getI (q := 88) (i := 59) fX8_101 rfl rfl dX8_layWater_85 rfl ?_
          refine SW.iload_n (q := 89) (i := 1) dX8_layWater_88 rfl rfl rfl ?_
          refine SW.aload_n (q := 90) (i := 0) dX8_layWater_89 rfl rfl rfl ?_
          refine SW.getI (q := 93) (i := 59) fX8_7 rfl rfl dX8_layWater_90 rfl ?_
          refine SW.idiv (q := 94) dX8_layWater_93 hne rfl ?_
          refine SW.iadd (q := 95) dX8_layWater_94 rfl ?_
          refine SW.icmp_ne (q := 98) (tgt := 107) dX8_layWater_95 (by decide) rfl (fun c95 => ?_) (fun c95 => ?_)
          · refine SW.iconst (q := 108) (v := 0) dX8_layWater_107 (by decide) rfl ?_
            refine SW.iadd (q := 109) dX8_layWater_108 rfl ?_
            refine SW.istore_n (q := 110) (i := 2) dX8_layWater_109 rfl (by decide) rfl ?_
            refine SW.iinc (q := 113) (v := _ + 1) dX8_layWater_110 rfl rfl (by decide) rfl ?_
            refine SW.goto (q := 49) dX8_layWater_113 (by decide) ?_
            first
            | refine SW.eq ?_ rfl rfl (ih2 (k1 + 1) (by omega) C)
              rw [px, e61] at c75
              first
              | rw [py, e62] at c95
                first
                | (rw [gr_hs, if_pos ⟨c75, c95⟩, nI_1, e63]; rfl)
                | (rw [gr_hs, if_neg (fun z => c95 z.2), nI_1, Int32.add_zero]; rfl)
              | (rw [gr_hs, if_neg (fun z => c75 z.1), nI_1, Int32.add_zero]; rfl)
          · refine SW.aload_n (q := 99) (i := 0) dX8_layWater_98 rfl rfl rfl ?_
            refine SW.getR (q := 102) (i := 59) (j := 63) fX8_23 rfl rfl dX8_layWater_99 rfl ?_
            refine SW.iload_n (q := 103) (i := 3) dX8_layWater_102 rfl rfl rfl ?_
            refine SW.ialdN (q := 104) (k := k1) rfl (rfl) (by omega) (by decide) dX8_layWater_103 rfl ?_
            refine SW.goto (q := 108) dX8_layWater_104 (by decide) ?_
            refine SW.iadd (q := 109) dX8_layWater_108 rfl ?_
            refine SW.istore_n (q := 110) (i := 2) dX8_layWater_109 rfl (by decide) rfl ?_
            refine SW.iinc (q := 113) (v := _ + 1) dX8_layWater_110 rfl rfl (by decide) rfl ?_
            refine SW.goto (q := 49) dX8_layWater_113 (by decide) ?_
            first
            | refine SW.eq ?_ rfl rfl (ih2 (k1 + 1) (by omega) C)
              rw [px, e61] at c75
              first
              | rw [py, e62] at c95
                first
                | (rw [gr_hs, if_pos ⟨c75, c95⟩, nI_1, e63]; rfl)
                | (rw [gr_hs, if_neg (fun z => c95 z.2), nI_1, Int32.add_zero]; rfl)
              | (rw [gr_hs, if_neg (fun z => c75 z.1), nI_1, Int32.add_zero]; rfl)
    refine SW.iload_n (q := 8) (i := 1) dX8_layWater_7 rfl rfl rfl ?_
    refine SW.aload_n (q := 9) (i := 0) dX8_layWater_8 rfl rfl rfl ?_
    refine SW.getI (q := 12) (i := 59) fX8_7 rfl rfl dX8_layWater_9 rfl ?_
    refine SW.aload_n (q := 13) (i := 0) dX8_layWater_12 rfl rfl rfl ?_
    refine SW.getI (q := 16) (i := 59) fX8_7 rfl rfl dX8_layWater_13 rfl ?_
    refine SW.imul (q := 17) dX8_layWater_16 rfl ?_
    refine SW.icmp_ge (q := 20) (tgt := 158) dX8_layWater_17 (by decide) rfl (fun c17 => absurd c17 ((by rw [en, pk_mul]; exact nI_ge (by omega) (by omega)))) (fun _ => ?_)
    refine SW.aload_n (q := 21) (i := 0) dX8_layWater_20 rfl rfl rfl ?_
    refine SW.aload_n (q := 22) (i := 0) dX8_layWater_21 rfl rfl rfl ?_
    refine SW.getI (q := 25) (i := 59) fX8_98 rfl rfl dX8_layWater_22 rfl ?_
    refine SW.iload_n (q := 26) (i := 1) dX8_layWater_25 rfl rfl rfl ?_
    refine SW.aload_n (q := 27) (i := 0) dX8_layWater_26 rfl rfl rfl ?_
    refine SW.getI (q := 30) (i := 59) fX8_7 rfl rfl dX8_layWater_27 rfl ?_
    refine SW.irem (q := 31) dX8_layWater_30 hne rfl ?_
    refine SW.iadd (q := 32) dX8_layWater_31 rfl ?_
    refine SW.aload_n (q := 33) (i := 0) dX8_layWater_32 rfl rfl rfl ?_
    refine SW.getI (q := 36) (i := 59) fX8_101 rfl rfl dX8_layWater_33 rfl ?_
    refine SW.iload_n (q := 37) (i := 1) dX8_layWater_36 rfl rfl rfl ?_
    refine SW.aload_n (q := 38) (i := 0) dX8_layWater_37 rfl rfl rfl ?_
    refine SW.getI (q := 41) (i := 59) fX8_7 rfl rfl dX8_layWater_38 rfl ?_
    refine SW.idiv (q := 42) dX8_layWater_41 hne rfl ?_
    refine SW.iadd (q := 43) dX8_layWater_42 rfl ?_
    refine SW.cF (q := 46) (C_X8_groundAt px py (by omega) (by omega)) vX8_93 (by decide) rfl rfl rfl rfl (Nat.le_of_ble_eq_true rfl) dX8_layWater_43 rfl ?_
    refine SW.istore_n (q := 47) (i := 2) dX8_layWater_46 rfl (by decide) rfl ?_
    refine SW.iconst (q := 48) (v := 0) dX8_layWater_47 (by decide) rfl ?_
    refine SW.istore_n (q := 49) (i := 3) dX8_layWater_48 rfl (by decide) rfl ?_
    exact SW.eq (by rw [hf 59 (by decide)]; rfl) rfl rfl (inner c 0 (by omega) _)
theorem mm_R.fr {l : List Nat} {u : sw_Sg} (a : mm_R n K T lv od D σ) (hf : fr_ l σ u) (h1 : 65 ∉ l) (h2 : 66 ∉ l) (h3 : 67 ∉ l) (h4 : 68 ∉ l) (h5 : u 59 18 = σ 59 18) : mm_R n K T lv od D u := by
  unfold mm_R
  rw [h5, hf 65 h1, hf 66 h2, hf 67 h3, hf 68 h4]
  exact a
/-- one place more, in the rows -/
theorem mm_take {l2 : Nat} {r0 : Option Nat} (a : mm_R n K T lv od D σ) (hp : p < n * n) (hK : K < 576) (hn : ¬ wt_tk T K p) (l4 : l2 ≤ 400) :
    mm_R n (K + 1) (va_up T K p) (va_up lv p l2) (va_up od p K) (va_up D p r0) (sw_up (sw_up (sw_up (sw_up (sw_up σ 65 p (nI l2)) 66 p (gr_v r0)) 67 p (nI K)) 68 K (nI p)) 59 18 (nI (K + 1))) := by
  obtain ⟨r1, r2, r3, r4⟩ := a
  refine ⟨sw_i1, fun j hj => ?_, fun q hq ht => ?_, fun q hq ht => ?_⟩
  · rw [sw_un (by decide)]
    by_cases z : j = K
    · subst z; rw [sw_i1, up_i]
    · rw [sw_o1 z, up_o z, sw_un (by decide), sw_un (by decide), sw_un (by decide)]; exact r2 j (by omega)
  · rw [sw_un (show 67 ≠ 59 by decide), sw_un (show 65 ≠ 59 by decide), sw_un (show 66 ≠ 59 by decide), sw_un (show 67 ≠ 68 by decide), sw_un (show 65 ≠ 68 by decide), sw_un (show 66 ≠ 68 by decide), sw_un (show 65 ≠ 67 by decide), sw_un (show 66 ≠ 67 by decide), sw_un (show 65 ≠ 66 by decide)]
    by_cases z : q = p
    · subst z; rw [sw_i1, sw_i1, sw_i1, up_i, up_i, up_i]; exact ⟨rfl, hK, rfl, l4, rfl⟩
    · rw [sw_o1 z, sw_o1 z, sw_o1 z, up_o z, up_o z, up_o z, sw_un (by decide), sw_un (by decide), sw_un (by decide)]
      exact r3 q hq ((wt_tk_snoc.mp ht).resolve_right z)
  · have ht2 := fun z => ht (wt_tk_snoc.mpr z)
    rw [sw_un (by decide), sw_un (by decide), sw_o1 (fun z => ht2 (Or.inr z)), sw_un (by decide), sw_un (by decide)]
    exact r4 q hq (fun z => ht2 (Or.inl z))
/-- slots of the reference's object that stay -/
def fs_ (ks : List Nat) (σ u : sw_Sg) : Prop := ∀ j, j ∉ ks → u 59 j = σ 59 j
theorem fs_rf {ks : List Nat} {σ : sw_Sg} : fs_ ks σ σ := fun _ _ => rfl
theorem fs_up {ks : List Nat} {σ u : sw_Sg} {i k : Nat} {v : Int32} (a : fs_ ks σ u) (hi : i ≠ 59) : fs_ ks σ (sw_up u i k v) := fun j hj => by rw [sw_un (Ne.symm hi)]; exact a j hj
theorem fs_ups {ks : List Nat} {σ u : sw_Sg} {k : Nat} {v : Int32} (a : fs_ ks σ u) (hk : k ∈ ks) : fs_ ks σ (sw_up u 59 k v) := fun j hj => by rw [sw_o1 (show j ≠ k from fun e => hj (by rw [e]; exact hk))]; exact a j hj
theorem fs_tr {ks ks' : List Nat} {σ u w : sw_Sg} (a : fs_ ks σ u) (b : fs_ ks' u w) (hs : ∀ i ∈ ks', i ∈ ks) : fs_ ks σ w := fun j hj => (b j (fun e => hj (hs j e))).trans (a j hj)
theorem mw_outlets (hM : gr_M σ n) (hs : σ 60 0 = nI sea) (s255 : sea ≤ 255) (hh : ∀ p, p < n * n → σ 64 p = nI (h p) ∧ h p ≤ 400) (h18 : σ 59 18 = 0) (h67 : ∀ p, p < n * n → σ 67 p = -6)
    (kk : ∀ (A B C : Value) (u : sw_Sg) (K : Nat) (T lv od : Nat → Nat) (D : Nat → Option Nat), fr_ [59, 65, 66, 67, 68] σ u → fs_ [18] σ u → wt_ok n h sea K T lv od D → mm_R n K T lv od D u → (∀ q, q < n * n → wt_out n h sea q = true → wt_tk T K q) → SW X 3 mX8_layWater sw_E0 R 225 [.ref (sw_ad X 59), .int (nI (n * n)), A, B, C] [] u) :
    ∀ (A B C : Value), SW X 3 mX8_layWater sw_E0 R 160 [.ref (sw_ad X 59), .int (nI 0), A, B, C] [] σ := by
  have n24 : n ≤ 24 := hM.2.1
  have h576 := gr_576 n24
  have n4 := hM.1
  have loop : ∀ (k p : Nat), p + k = n * n → ∀ (A B C : Value) (τ : sw_Sg) (K : Nat) (T lv od : Nat → Nat) (D : Nat → Option Nat), fr_ [59, 65, 66, 67, 68] σ τ → fs_ [18] σ τ → wt_ok n h sea K T lv od D → mm_R n K T lv od D τ → (∀ q, q < n * n → (wt_tk T K q ↔ (wt_out n h sea q = true ∧ q < p))) → SW X 3 mX8_layWater sw_E0 R 160 [.ref (sw_ad X 59), .int (nI p), A, B, C] [] τ := by
    intro k
    induction k with
    | zero =>
      intro p hpk A B C τ K T lv od D hf hfs hok hR ht
      obtain rfl : p = n * n := by omega
      have en : τ 59 1 = nI n := by rw [hfs 1 (by decide)]; exact hM.2.2
      refine SW.iload_n (q := 161) (i := 1) dX8_layWater_160 rfl rfl rfl ?_
      refine SW.aload_n (q := 162) (i := 0) dX8_layWater_161 rfl rfl rfl ?_
      refine SW.getI (q := 165) (i := 59) fX8_7 rfl rfl dX8_layWater_162 rfl ?_
      refine SW.aload_n (q := 166) (i := 0) dX8_layWater_165 rfl rfl rfl ?_
      refine SW.getI (q := 169) (i := 59) fX8_7 rfl rfl dX8_layWater_166 rfl ?_
      refine SW.imul (q := 170) dX8_layWater_169 rfl ?_
      refine SW.icmp_ge (q := 173) (tgt := 225) dX8_layWater_170 (by decide) rfl (fun _ => ?_) (fun c170 => absurd ((by rw [en, pk_mul]; exact Int32.le_refl _)) c170)
      exact kk A B C τ K T lv od D hf hfs hok hR (fun q hq ho => (ht q hq).mpr ⟨ho, hq⟩)
    | succ k ih =>
      intro p hpk A B C τ K T lv od D hf hfs hok hR ht
      have hp : p < n * n := by omega
      have en : τ 59 1 = nI n := by rw [hfs 1 (by decide)]; exact hM.2.2
      have hM2 : gr_M τ n := ⟨hM.1, hM.2.1, en⟩
      have hnt : ¬ wt_tk T K p := fun z => absurd ((ht p hp).mp z).2 (Nat.lt_irrefl _)
      have hKP := wt_K hok hp hnt
      obtain ⟨eh, h400⟩ := hh p hp
      have e64 : τ 64 p = nI (h p) := by rw [hf 64 (by decide)]; exact eh
      have e60 : τ 60 0 = nI sea := by rw [hf 60 (by decide)]; exact hs
      have hsea : decide (τ 64 p < τ 60 0) = decide (h p < sea) := by rw [e64, e60]; exact decide_eq_decide.mpr (nI_ltI (by omega) (by omega))
      have hout : wt_out n h sea p = (decide (h p < sea) || gr_rim n p) := rfl
      have step : wt_out n h sea p = true → ∀ (l : Nat), l = (if h p < sea then sea else h p) → ∀ (w : Int32), w = nI l → SW X 3 mX8_layWater sw_E0 R 160 [.ref (sw_ad X 59), .int (nI (p + 1)), A, B, C] [] (sw_up (sw_up (sw_up (sw_up (sw_up τ 65 p w) 66 p (-6)) 67 p (nI K)) 68 K (nI p)) 59 18 (nI (K + 1))) := by
        rintro ho l hl w rfl
        have l4 : l ≤ 400 := by rw [hl]; split <;> omega
        refine ih (p + 1) (by omega) A B C _ (K + 1) _ _ _ _ (fr_up (fr_up (fr_up (fr_up (fr_up hf (by decide)) (by decide)) (by decide)) (by decide)) (by decide)) (fs_ups (fs_up (fs_up (fs_up (fs_up hfs (by decide)) (by decide)) (by decide)) (by decide)) (by decide)) (wt_snoc hok hp hnt (Or.inl ⟨ho, fun q q1 q2 q3 => (ht q q1).mpr ⟨q2, q3⟩, hl, rfl⟩)) (mm_take (r0 := none) hR hp (by omega) hnt l4) (fun q hq => ?_)
        rw [wt_tk_snoc, ht q hq]
        constructor
        · rintro (a | rfl)
          · exact ⟨a.1, by omega⟩
          · exact ⟨ho, by omega⟩
        · rintro ⟨a, b⟩
          by_cases z : q = p
          · exact Or.inr z
          · exact Or.inl ⟨a, by omega⟩
      have skip : wt_out n h sea p = false → SW X 3 mX8_layWater sw_E0 R 160 [.ref (sw_ad X 59), .int (nI (p + 1)), A, B, C] [] τ := by
        intro ho
        refine ih (p + 1) (by omega) A B C τ K T lv od D hf hfs hok hR (fun q hq => ?_)
        rw [ht q hq]
        constructor
        · rintro ⟨a, b⟩; exact ⟨a, by omega⟩
        · rintro ⟨a, b⟩
          refine ⟨a, ?_⟩
          by_cases z : q = p
          · subst z; rw [ho] at a; cases a
          · omega
      by_cases hlt : h p < sea
      · refine SW.iload_n (q := 161) (i := 1) dX8_layWater_160 rfl rfl rfl ?_
        refine SW.aload_n (q := 162) (i := 0) dX8_layWater_161 rfl rfl rfl ?_
        refine SW.getI (q := 165) (i := 59) fX8_7 rfl rfl dX8_layWater_162 rfl ?_
        refine SW.aload_n (q := 166) (i := 0) dX8_layWater_165 rfl rfl rfl ?_
        refine SW.getI (q := 169) (i := 59) fX8_7 rfl rfl dX8_layWater_166 rfl ?_
        refine SW.imul (q := 170) dX8_layWater_169 rfl ?_
        refine SW.icmp_ge (q := 173) (tgt := 225) dX8_layWater_170 (by decide) rfl (fun c170 => absurd c170 ((by rw [en, pk_mul]; exact nI_ge (by omega) (by omega)))) (fun _ => ?_)
        refine SW.aload_n (q := 174) (i := 0) dX8_layWater_173 rfl rfl rfl ?_
        refine SW.iload_n (q := 175) (i := 1) dX8_layWater_174 rfl rfl rfl ?_
        refine SW.cF (q := 178) (C_X8_isSea rfl (by omega)) vX8_117 (by decide) rfl rfl rfl rfl (Nat.le_of_ble_eq_true rfl) dX8_layWater_175 rfl ?_
        rw [hsea, decide_eq_true hlt]
        refine SW.if_ne (q := 181) (tgt := 189) dX8_layWater_178 (by decide) rfl (fun _ => ?_) (fun c178 => absurd c178 ((by decide)))
        refine SW.aload_n (q := 190) (i := 0) dX8_layWater_189 rfl rfl rfl ?_
        refine SW.iload_n (q := 191) (i := 1) dX8_layWater_190 rfl rfl rfl ?_
        refine SW.aload_n (q := 192) (i := 0) dX8_layWater_191 rfl rfl rfl ?_
        refine SW.iload_n (q := 193) (i := 1) dX8_layWater_192 rfl rfl rfl ?_
        refine SW.cF (q := 196) (C_X8_isSea rfl (by omega)) vX8_117 (by decide) rfl rfl rfl rfl (Nat.le_of_ble_eq_true rfl) dX8_layWater_193 rfl ?_
        rw [hsea, decide_eq_true hlt]
        refine SW.if_eq (q := 199) (tgt := 208) dX8_layWater_196 (by decide) rfl (fun c196 => absurd c196 ((by decide))) (fun _ => ?_)
        refine SW.aload_n (q := 200) (i := 0) dX8_layWater_199 rfl rfl rfl ?_
        refine SW.getR (q := 203) (i := 59) (j := 60) fX8_13 rfl rfl dX8_layWater_200 rfl ?_
        refine SW.iconst (q := 204) (v := 0) dX8_layWater_203 (by decide) rfl ?_
        refine SW.ialdN (q := 205) (k := 0) rfl (rfl) (by decide) (by decide) dX8_layWater_204 rfl ?_
        refine SW.goto (q := 214) dX8_layWater_205 (by decide) ?_
        refine SW.bipush (q := 216) (v := (-6)) dX8_layWater_214 (by decide) rfl ?_
        refine SW.cG (q := 219) (C_X8_take rfl (by omega) hR.1 (by omega)) vX8_123 (by decide) rfl rfl rfl rfl (Nat.le_of_ble_eq_true rfl) dX8_layWater_216 rfl ?_
        refine SW.iinc (q := 222) (v := _ + 1) dX8_layWater_219 rfl rfl (by decide) rfl ?_
        refine SW.goto (q := 160) dX8_layWater_222 (by decide) ?_
        exact SW.eq (by rw [nI_1]; rfl) rfl rfl (step (by rw [hout]; simp [hlt]) sea (by rw [if_pos hlt]) _ e60)
      · cases hrim : gr_rim n p with
        | true =>
          refine SW.iload_n (q := 161) (i := 1) dX8_layWater_160 rfl rfl rfl ?_
          refine SW.aload_n (q := 162) (i := 0) dX8_layWater_161 rfl rfl rfl ?_
          refine SW.getI (q := 165) (i := 59) fX8_7 rfl rfl dX8_layWater_162 rfl ?_
          refine SW.aload_n (q := 166) (i := 0) dX8_layWater_165 rfl rfl rfl ?_
          refine SW.getI (q := 169) (i := 59) fX8_7 rfl rfl dX8_layWater_166 rfl ?_
          refine SW.imul (q := 170) dX8_layWater_169 rfl ?_
          refine SW.icmp_ge (q := 173) (tgt := 225) dX8_layWater_170 (by decide) rfl (fun c170 => absurd c170 ((by rw [en, pk_mul]; exact nI_ge (by omega) (by omega)))) (fun _ => ?_)
          refine SW.aload_n (q := 174) (i := 0) dX8_layWater_173 rfl rfl rfl ?_
          refine SW.iload_n (q := 175) (i := 1) dX8_layWater_174 rfl rfl rfl ?_
          refine SW.cF (q := 178) (C_X8_isSea rfl (by omega)) vX8_117 (by decide) rfl rfl rfl rfl (Nat.le_of_ble_eq_true rfl) dX8_layWater_175 rfl ?_
          rw [hsea, decide_eq_false hlt]
          refine SW.if_ne (q := 181) (tgt := 189) dX8_layWater_178 (by decide) rfl (fun c178 => absurd (rfl) c178) (fun _ => ?_)
          refine SW.aload_n (q := 182) (i := 0) dX8_layWater_181 rfl rfl rfl ?_
          refine SW.iload_n (q := 183) (i := 1) dX8_layWater_182 rfl rfl rfl ?_
          refine SW.cF (q := 186) (C_X8_isRim hM2 rfl hp) vX8_120 (by decide) rfl rfl rfl rfl (Nat.le_of_ble_eq_true rfl) dX8_layWater_183 rfl ?_
          rw [hrim]
          refine SW.if_eq (q := 189) (tgt := 219) dX8_layWater_186 (by decide) rfl (fun c186 => absurd c186 ((by decide))) (fun _ => ?_)
          refine SW.aload_n (q := 190) (i := 0) dX8_layWater_189 rfl rfl rfl ?_
          refine SW.iload_n (q := 191) (i := 1) dX8_layWater_190 rfl rfl rfl ?_
          refine SW.aload_n (q := 192) (i := 0) dX8_layWater_191 rfl rfl rfl ?_
          refine SW.iload_n (q := 193) (i := 1) dX8_layWater_192 rfl rfl rfl ?_
          refine SW.cF (q := 196) (C_X8_isSea rfl (by omega)) vX8_117 (by decide) rfl rfl rfl rfl (Nat.le_of_ble_eq_true rfl) dX8_layWater_193 rfl ?_
          rw [hsea, decide_eq_false hlt]
          refine SW.if_eq (q := 199) (tgt := 208) dX8_layWater_196 (by decide) rfl (fun _ => ?_) (fun c196 => absurd (rfl) c196)
          refine SW.aload_n (q := 209) (i := 0) dX8_layWater_208 rfl rfl rfl ?_
          refine SW.getR (q := 212) (i := 59) (j := 64) fX8_26 rfl rfl dX8_layWater_209 rfl ?_
          refine SW.iload_n (q := 213) (i := 1) dX8_layWater_212 rfl rfl rfl ?_
          refine SW.ialdN (q := 214) (k := p) rfl (rfl) (by omega) (by decide) dX8_layWater_213 rfl ?_
          refine SW.bipush (q := 216) (v := (-6)) dX8_layWater_214 (by decide) rfl ?_
          refine SW.cG (q := 219) (C_X8_take rfl (by omega) hR.1 (by omega)) vX8_123 (by decide) rfl rfl rfl rfl (Nat.le_of_ble_eq_true rfl) dX8_layWater_216 rfl ?_
          refine SW.iinc (q := 222) (v := _ + 1) dX8_layWater_219 rfl rfl (by decide) rfl ?_
          refine SW.goto (q := 160) dX8_layWater_222 (by decide) ?_
          exact SW.eq (by rw [nI_1]; rfl) rfl rfl (step (by rw [hout, hrim]; simp) (h p) (by rw [if_neg hlt]) _ e64)
        | false =>
          refine SW.iload_n (q := 161) (i := 1) dX8_layWater_160 rfl rfl rfl ?_
          refine SW.aload_n (q := 162) (i := 0) dX8_layWater_161 rfl rfl rfl ?_
          refine SW.getI (q := 165) (i := 59) fX8_7 rfl rfl dX8_layWater_162 rfl ?_
          refine SW.aload_n (q := 166) (i := 0) dX8_layWater_165 rfl rfl rfl ?_
          refine SW.getI (q := 169) (i := 59) fX8_7 rfl rfl dX8_layWater_166 rfl ?_
          refine SW.imul (q := 170) dX8_layWater_169 rfl ?_
          refine SW.icmp_ge (q := 173) (tgt := 225) dX8_layWater_170 (by decide) rfl (fun c170 => absurd c170 ((by rw [en, pk_mul]; exact nI_ge (by omega) (by omega)))) (fun _ => ?_)
          refine SW.aload_n (q := 174) (i := 0) dX8_layWater_173 rfl rfl rfl ?_
          refine SW.iload_n (q := 175) (i := 1) dX8_layWater_174 rfl rfl rfl ?_
          refine SW.cF (q := 178) (C_X8_isSea rfl (by omega)) vX8_117 (by decide) rfl rfl rfl rfl (Nat.le_of_ble_eq_true rfl) dX8_layWater_175 rfl ?_
          rw [hsea, decide_eq_false hlt]
          refine SW.if_ne (q := 181) (tgt := 189) dX8_layWater_178 (by decide) rfl (fun c178 => absurd (rfl) c178) (fun _ => ?_)
          refine SW.aload_n (q := 182) (i := 0) dX8_layWater_181 rfl rfl rfl ?_
          refine SW.iload_n (q := 183) (i := 1) dX8_layWater_182 rfl rfl rfl ?_
          refine SW.cF (q := 186) (C_X8_isRim hM2 rfl hp) vX8_120 (by decide) rfl rfl rfl rfl (Nat.le_of_ble_eq_true rfl) dX8_layWater_183 rfl ?_
          rw [hrim]
          refine SW.if_eq (q := 189) (tgt := 219) dX8_layWater_186 (by decide) rfl (fun _ => ?_) (fun c186 => absurd (rfl) c186)
          refine SW.iinc (q := 222) (v := _ + 1) dX8_layWater_219 rfl rfl (by decide) rfl ?_
          refine SW.goto (q := 160) dX8_layWater_222 (by decide) ?_
          exact SW.eq (by rw [nI_1]; rfl) rfl rfl (skip (by rw [hout, hrim]; simp [hlt]))
  intro A B C
  exact loop (n * n) 0 (by omega) A B C σ 0 (fun _ => 0) (fun _ => 0) (fun _ => 0) (fun _ => none) fr_rf fs_rf ⟨fun j hj => absurd hj (Nat.not_lt_zero _), fun j hj => absurd hj (Nat.not_lt_zero _)⟩ ⟨h18, fun j hj => absurd hj (Nat.not_lt_zero _), fun q hq ⟨i, i1, _⟩ => absurd i1 (Nat.not_lt_zero _), fun q hq _ => h67 q hq⟩ (fun q hq => ⟨fun ⟨i, i1, _⟩ => absurd i1 (Nat.not_lt_zero _), fun z => absurd z.2 (Nat.not_lt_zero _)⟩)
end MWATER
