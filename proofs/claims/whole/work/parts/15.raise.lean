/-! heights of the class, and the reference's first loop of water -/
section RAISE
variable {X : sw_X} {σ : sw_Sg} {x y v : Int32} {n p q a b c : Nat}
/-- what the changes' rows hold: points not too far off -/
def gr_chs (σ : sw_Sg) (i j c : Nat) : Prop := c ≤ 30 ∧ ∀ k, k < c → ∃ cx cy : Nat, cx < 2 ^ 30 ∧ cy < 2 ^ 30 ∧ σ i k = nI cx ∧ σ j k = nI cy
theorem C_X5_raiseHeights (hT : gr_T σ n) (hl : σ 1 3 = nI a) (ht : σ 1 4 = nI b) (ha : a ≤ 100000) (hb : b ≤ 100000) (hc : σ 1 5 = nI c) (hch : gr_chs σ 34 35 c) :
    sw_Mv X 2 mX5_raiseHeights [.ref (sw_ad X 1)] σ (fun u => fr_ [40] σ u ∧ ∀ p, p < n * n → u 40 p = gr_cl (gr_hs (σ 34) (σ 35) (σ 36) (σ 39 p) (nI (a + p % n)) (nI (b + p / n)) c)) := by
  have hT0 := hT
  obtain ⟨n4, n24, hside, hpl, hcl⟩ := hT
  have h576 := gr_576 n24
  obtain ⟨c30, hcc⟩ := hch
  refine sw_ME.ofF (by decide +kernel) rfl (Nat.le_of_ble_eq_true rfl) rfl ?_
  have L3 : ∀ (m k : Nat), k + m = n * n → ∀ (A B : Value) (τ : sw_Sg), fr_ [40] σ τ → (∀ p, p < k → τ 40 p = gr_cl (gr_hs (σ 34) (σ 35) (σ 36) (σ 39 p) (nI (a + p % n)) (nI (b + p / n)) c)) → (∀ p, k ≤ p → p < n * n → τ 40 p = gr_hs (σ 34) (σ 35) (σ 36) (σ 39 p) (nI (a + p % n)) (nI (b + p / n)) c) →
      SW X 2 mX5_raiseHeights sw_E0 (sw_Rv (fun u => fr_ [40] σ u ∧ ∀ p, p < n * n → u 40 p = gr_cl (gr_hs (σ 34) (σ 35) (σ 36) (σ 39 p) (nI (a + p % n)) (nI (b + p / n)) c))) 129 [.ref (sw_ad X 1), .int (nI k), A, B] [] τ := by
    intro m
    induction m with
    | zero =>
      intro k hk A B τ hf h1 h2
      obtain rfl : k = n * n := by omega
      refine SW.iload_n (q := 130) (i := 1) dX5_raiseHeights_129 rfl rfl rfl ?_
      refine SW.aload_n (q := 131) (i := 0) dX5_raiseHeights_130 rfl rfl rfl ?_
      refine SW.getI (q := 134) (i := 1) fX5_18 rfl rfl dX5_raiseHeights_131 rfl ?_
      refine SW.icmp_ge (q := 137) (tgt := 169) dX5_raiseHeights_134 (by decide) rfl (fun _ => ?_) (fun c134 => absurd ((by rw [hf 1 (by decide), hpl]; exact Int32.le_refl _)) c134)
      refine SW.vretR rfl dX5_raiseHeights_169 ?_
      exact ⟨hf, h1⟩
    | succ m ih =>
      intro k hk A B τ hf h1 h2
      refine SW.iload_n (q := 130) (i := 1) dX5_raiseHeights_129 rfl rfl rfl ?_
      refine SW.aload_n (q := 131) (i := 0) dX5_raiseHeights_130 rfl rfl rfl ?_
      refine SW.getI (q := 134) (i := 1) fX5_18 rfl rfl dX5_raiseHeights_131 rfl ?_
      refine SW.icmp_ge (q := 137) (tgt := 169) dX5_raiseHeights_134 (by decide) rfl (fun c134 => absurd c134 ((by rw [hf 1 (by decide), hpl]; exact nI_ge (by omega) (by omega)))) (fun _ => ?_)
      refine SW.aload_n (q := 138) (i := 0) dX5_raiseHeights_137 rfl rfl rfl ?_
      refine SW.getR (q := 141) (i := 1) (j := 14) fX5_54 rfl rfl dX5_raiseHeights_138 rfl ?_
      refine SW.iload_n (q := 142) (i := 1) dX5_raiseHeights_141 rfl rfl rfl ?_
      refine SW.iconst (q := 143) (v := 0) dX5_raiseHeights_142 (by decide) rfl ?_
      refine SW.aload_n (q := 144) (i := 0) dX5_raiseHeights_143 rfl rfl rfl ?_
      refine SW.getR (q := 147) (i := 1) (j := 14) fX5_54 rfl rfl dX5_raiseHeights_144 rfl ?_
      refine SW.iload_n (q := 148) (i := 1) dX5_raiseHeights_147 rfl rfl rfl ?_
      refine SW.cF (q := 151) (C_X3_atn (i := 14) (j := 40) (n := 576) rfl rfl (k := k) rfl (by omega)) vX5_77 (by decide) rfl rfl rfl rfl (Nat.le_of_ble_eq_true rfl) dX5_raiseHeights_148 rfl ?_
      refine SW.sipush (q := 154) (v := 400) dX5_raiseHeights_151 (by decide) rfl ?_
      refine SW.sF (q := 157) (C_min) vX5_88 (by decide) rfl rfl (Nat.le_of_ble_eq_true rfl) dX5_raiseHeights_154 rfl ?_
      refine SW.sF (q := 160) (C_max) vX5_93 (by decide) rfl rfl (Nat.le_of_ble_eq_true rfl) dX5_raiseHeights_157 rfl ?_
      refine SW.cG (q := 163) (C_X3_putn (i := 14) (j := 40) (n := 576) rfl rfl (k := k) rfl (by omega)) vX5_57 (by decide) rfl rfl rfl rfl (Nat.le_of_ble_eq_true rfl) dX5_raiseHeights_160 rfl ?_
      refine SW.iinc (q := 166) (v := _ + 1) dX5_raiseHeights_163 rfl rfl (by decide) rfl ?_
      refine SW.goto (q := 129) dX5_raiseHeights_166 (by decide) ?_
      refine SW.eq (by rw [nI_1]; rfl) rfl rfl (ih (k + 1) (by omega) A B _ (fr_up hf (by decide)) (fun p hp => ?_) (fun p hp hp2 => ?_))
      · by_cases e : p = k
        · subst e; rw [sw_i1, h2 p (Nat.le_refl _) (by omega)]; rfl
        · rw [sw_o1 e]; exact h1 p (by omega)
      · rw [sw_o1 (by omega)]; exact h2 p (by omega) hp2
  have L2 : ∀ (m k : Nat), k + m = c → ∀ (A B : Value) (τ : sw_Sg), fr_ [40] σ τ → (∀ p, p < n * n → τ 40 p = gr_hs (σ 34) (σ 35) (σ 36) (σ 39 p) (nI (a + p % n)) (nI (b + p / n)) k) →
      SW X 2 mX5_raiseHeights sw_E0 (sw_Rv (fun u => fr_ [40] σ u ∧ ∀ p, p < n * n → u 40 p = gr_cl (gr_hs (σ 34) (σ 35) (σ 36) (σ 39 p) (nI (a + p % n)) (nI (b + p / n)) c))) 34 [.ref (sw_ad X 1), .int (nI k), A, B] [] τ := by
    intro m
    induction m with
    | zero =>
      intro k hk A B τ hf h1
      obtain rfl : k = c := by omega
      refine SW.iload_n (q := 35) (i := 1) dX5_raiseHeights_34 rfl rfl rfl ?_
      refine SW.aload_n (q := 36) (i := 0) dX5_raiseHeights_35 rfl rfl rfl ?_
      refine SW.getI (q := 39) (i := 1) fX5_27 rfl rfl dX5_raiseHeights_36 rfl ?_
      refine SW.icmp_ge (q := 42) (tgt := 127) dX5_raiseHeights_39 (by decide) rfl (fun _ => ?_) (fun c39 => absurd ((by rw [hf 1 (by decide), hc]; exact Int32.le_refl _)) c39)
      refine SW.iconst (q := 128) (v := 0) dX5_raiseHeights_127 (by decide) rfl ?_
      refine SW.istore_n (q := 129) (i := 1) dX5_raiseHeights_128 rfl (by decide) rfl ?_
      exact L3 (n * n) 0 (by omega) A B τ hf (fun p hp => by omega) (fun p _ hp => h1 p hp)
    | succ m ih =>
      intro k hk A B τ hf h1
      obtain ⟨cx, cy, b1, b2, e1, e2⟩ := hcc k (by omega)
      have t1 : τ 1 1 = nI n := by rw [hf 1 (by decide)]; exact hside
      have t3 : τ 1 3 = nI a := by rw [hf 1 (by decide)]; exact hl
      have t4 : τ 1 4 = nI b := by rw [hf 1 (by decide)]; exact ht
      have x1 : τ 34 k = nI cx := by rw [hf 34 (by decide)]; exact e1
      have y1 : τ 35 k = nI cy := by rw [hf 35 (by decide)]; exact e2
      have miss : ¬ ((a ≤ cx ∧ cx - a < n) ∧ (b ≤ cy ∧ cy - b < n)) → ∀ p, p < n * n → τ 40 p = gr_hs (σ 34) (σ 35) (σ 36) (σ 39 p) (nI (a + p % n)) (nI (b + p / n)) (k + 1) := by
        intro hm p hp
        obtain ⟨l1, l2, l3⟩ := gr_lt hp
        rw [gr_hs, if_neg, h1 p hp]
        rintro ⟨z1, z2⟩
        rw [e1, nI_eq (by omega) (by omega)] at z1
        rw [e2, nI_eq (by omega) (by omega)] at z2
        generalize p / n = u1 at z2 l1
        generalize p % n = u2 at z1 l2
        exact hm ⟨⟨by omega, by omega⟩, ⟨by omega, by omega⟩⟩
      by_cases hx : a ≤ cx ∧ cx - a < n
      · by_cases hy : b ≤ cy ∧ cy - b < n
        · have hin := gr_in hx.2 hy.2
          obtain ⟨g1, g2⟩ := gr_xy (n := n) (x := cx - a) (y := cy - b) hx.2
          refine SW.iload_n (q := 35) (i := 1) dX5_raiseHeights_34 rfl rfl rfl ?_
          refine SW.aload_n (q := 36) (i := 0) dX5_raiseHeights_35 rfl rfl rfl ?_
          refine SW.getI (q := 39) (i := 1) fX5_27 rfl rfl dX5_raiseHeights_36 rfl ?_
          refine SW.icmp_ge (q := 42) (tgt := 127) dX5_raiseHeights_39 (by decide) rfl (fun c39 => absurd c39 ((by rw [hf 1 (by decide), hc]; exact nI_ge (by omega) (by omega)))) (fun _ => ?_)
          refine SW.aload_n (q := 43) (i := 0) dX5_raiseHeights_42 rfl rfl rfl ?_
          refine SW.getR (q := 46) (i := 1) (j := 8) fX5_35 rfl rfl dX5_raiseHeights_43 rfl ?_
          refine SW.iload_n (q := 47) (i := 1) dX5_raiseHeights_46 rfl rfl rfl ?_
          refine SW.cF (q := 50) (C_X3_atn (i := 8) (j := 34) (n := 30) rfl rfl (k := k) rfl (by omega)) vX5_77 (by decide) rfl rfl rfl rfl (Nat.le_of_ble_eq_true rfl) dX5_raiseHeights_47 rfl ?_
          refine SW.aload_n (q := 51) (i := 0) dX5_raiseHeights_50 rfl rfl rfl ?_
          refine SW.getI (q := 54) (i := 1) fX5_21 rfl rfl dX5_raiseHeights_51 rfl ?_
          refine SW.isub (q := 55) dX5_raiseHeights_54 rfl ?_
          refine SW.istore_n (q := 56) (i := 2) dX5_raiseHeights_55 rfl (by decide) rfl ?_
          refine SW.aload_n (q := 57) (i := 0) dX5_raiseHeights_56 rfl rfl rfl ?_
          refine SW.getR (q := 60) (i := 1) (j := 9) fX5_39 rfl rfl dX5_raiseHeights_57 rfl ?_
          refine SW.iload_n (q := 61) (i := 1) dX5_raiseHeights_60 rfl rfl rfl ?_
          refine SW.cF (q := 64) (C_X3_atn (i := 9) (j := 35) (n := 30) rfl rfl (k := k) rfl (by omega)) vX5_77 (by decide) rfl rfl rfl rfl (Nat.le_of_ble_eq_true rfl) dX5_raiseHeights_61 rfl ?_
          refine SW.aload_n (q := 65) (i := 0) dX5_raiseHeights_64 rfl rfl rfl ?_
          refine SW.getI (q := 68) (i := 1) fX5_24 rfl rfl dX5_raiseHeights_65 rfl ?_
          refine SW.isub (q := 69) dX5_raiseHeights_68 rfl ?_
          refine SW.istore_n (q := 70) (i := 3) dX5_raiseHeights_69 rfl (by decide) rfl ?_
          refine SW.iload_n (q := 71) (i := 2) dX5_raiseHeights_70 rfl rfl rfl ?_
          refine SW.iconst (q := 72) (v := 0) dX5_raiseHeights_71 (by decide) rfl ?_
          refine SW.aload_n (q := 73) (i := 0) dX5_raiseHeights_72 rfl rfl rfl ?_
          refine SW.getI (q := 76) (i := 1) fX5_15 rfl rfl dX5_raiseHeights_73 rfl ?_
          refine SW.iconst (q := 77) (v := 1) dX5_raiseHeights_76 (by decide) rfl ?_
          refine SW.isub (q := 78) dX5_raiseHeights_77 rfl ?_
          refine SW.snF (q := 81) (C_X7_within) vX5_81 (by decide) rfl rfl (Nat.le_of_ble_eq_true rfl) dX5_raiseHeights_78 rfl ?_
          refine SW.if_eq (q := 84) (tgt := 121) dX5_raiseHeights_81 (by decide) rfl (fun c81 => absurd c81 ((by rw [x1, t3, t1]; exact fun z => (gr_wi b1 (by omega) (by omega) (by omega)).mp z hx))) (fun _ => ?_)
          refine SW.iload_n (q := 85) (i := 3) dX5_raiseHeights_84 rfl rfl rfl ?_
          refine SW.iconst (q := 86) (v := 0) dX5_raiseHeights_85 (by decide) rfl ?_
          refine SW.aload_n (q := 87) (i := 0) dX5_raiseHeights_86 rfl rfl rfl ?_
          refine SW.getI (q := 90) (i := 1) fX5_15 rfl rfl dX5_raiseHeights_87 rfl ?_
          refine SW.iconst (q := 91) (v := 1) dX5_raiseHeights_90 (by decide) rfl ?_
          refine SW.isub (q := 92) dX5_raiseHeights_91 rfl ?_
          refine SW.snF (q := 95) (C_X7_within) vX5_81 (by decide) rfl rfl (Nat.le_of_ble_eq_true rfl) dX5_raiseHeights_92 rfl ?_
          refine SW.if_eq (q := 98) (tgt := 121) dX5_raiseHeights_95 (by decide) rfl (fun c95 => absurd c95 ((by rw [y1, t4, t1]; exact fun z => (gr_wi b2 (by omega) (by omega) (by omega)).mp z hy))) (fun _ => ?_)
          refine SW.aload_n (q := 99) (i := 0) dX5_raiseHeights_98 rfl rfl rfl ?_
          refine SW.getR (q := 102) (i := 1) (j := 14) fX5_54 rfl rfl dX5_raiseHeights_99 rfl ?_
          refine SW.aload_n (q := 103) (i := 0) dX5_raiseHeights_102 rfl rfl rfl ?_
          refine SW.getI (q := 106) (i := 1) fX5_15 rfl rfl dX5_raiseHeights_103 rfl ?_
          refine SW.iload_n (q := 107) (i := 3) dX5_raiseHeights_106 rfl rfl rfl ?_
          refine SW.imul (q := 108) dX5_raiseHeights_107 rfl ?_
          refine SW.iload_n (q := 109) (i := 2) dX5_raiseHeights_108 rfl rfl rfl ?_
          refine SW.iadd (q := 110) dX5_raiseHeights_109 rfl ?_
          refine SW.aload_n (q := 111) (i := 0) dX5_raiseHeights_110 rfl rfl rfl ?_
          refine SW.getR (q := 114) (i := 1) (j := 10) fX5_42 rfl rfl dX5_raiseHeights_111 rfl ?_
          refine SW.iload_n (q := 115) (i := 1) dX5_raiseHeights_114 rfl rfl rfl ?_
          refine SW.cF (q := 118) (C_X3_atn (i := 10) (j := 36) (n := 30) rfl rfl (k := k) rfl (by omega)) vX5_77 (by decide) rfl rfl rfl rfl (Nat.le_of_ble_eq_true rfl) dX5_raiseHeights_115 rfl ?_
          refine SW.cG (q := 121) (C_X3_addn (i := 14) (j := 40) (n := 576) rfl rfl (k := n * (cy - b) + (cx - a)) (by rw [t1, y1, x1, t3, t4, pk_sub hx.1, pk_sub hy.1, pk_mul, nI_add]) (by omega)) vX5_85 (by decide) rfl rfl rfl rfl (Nat.le_of_ble_eq_true rfl) dX5_raiseHeights_118 rfl ?_
          refine SW.iinc (q := 124) (v := _ + 1) dX5_raiseHeights_121 rfl rfl (by decide) rfl ?_
          refine SW.goto (q := 34) dX5_raiseHeights_124 (by decide) ?_
          refine SW.eq (by rw [nI_1]; rfl) rfl rfl (ih (k + 1) (by omega) _ _ _ (fr_up hf (by decide)) (fun p hp => ?_))
          rw [gr_hs]
          by_cases e : p = n * (cy - b) + (cx - a)
          · rw [if_pos]
            · subst e; rw [sw_i1, h1 _ hp, hf 36 (by decide)]
            · rw [e, g1, g2, e1, e2, show a + (cx - a) = cx by omega, show b + (cy - b) = cy by omega]; exact ⟨rfl, rfl⟩
          · rw [sw_o1 e, if_neg, h1 p hp]
            rintro ⟨z1, z2⟩
            obtain ⟨l1, l2, l3⟩ := gr_lt hp
            rw [e1, nI_eq (by omega) (by omega)] at z1
            rw [e2, nI_eq (by omega) (by omega)] at z2
            apply e
            rw [show cy - b = p / n by omega, show cx - a = p % n by omega]
            exact gr_pp.symm
        · refine SW.iload_n (q := 35) (i := 1) dX5_raiseHeights_34 rfl rfl rfl ?_
          refine SW.aload_n (q := 36) (i := 0) dX5_raiseHeights_35 rfl rfl rfl ?_
          refine SW.getI (q := 39) (i := 1) fX5_27 rfl rfl dX5_raiseHeights_36 rfl ?_
          refine SW.icmp_ge (q := 42) (tgt := 127) dX5_raiseHeights_39 (by decide) rfl (fun c39 => absurd c39 ((by rw [hf 1 (by decide), hc]; exact nI_ge (by omega) (by omega)))) (fun _ => ?_)
          refine SW.aload_n (q := 43) (i := 0) dX5_raiseHeights_42 rfl rfl rfl ?_
          refine SW.getR (q := 46) (i := 1) (j := 8) fX5_35 rfl rfl dX5_raiseHeights_43 rfl ?_
          refine SW.iload_n (q := 47) (i := 1) dX5_raiseHeights_46 rfl rfl rfl ?_
          refine SW.cF (q := 50) (C_X3_atn (i := 8) (j := 34) (n := 30) rfl rfl (k := k) rfl (by omega)) vX5_77 (by decide) rfl rfl rfl rfl (Nat.le_of_ble_eq_true rfl) dX5_raiseHeights_47 rfl ?_
          refine SW.aload_n (q := 51) (i := 0) dX5_raiseHeights_50 rfl rfl rfl ?_
          refine SW.getI (q := 54) (i := 1) fX5_21 rfl rfl dX5_raiseHeights_51 rfl ?_
          refine SW.isub (q := 55) dX5_raiseHeights_54 rfl ?_
          refine SW.istore_n (q := 56) (i := 2) dX5_raiseHeights_55 rfl (by decide) rfl ?_
          refine SW.aload_n (q := 57) (i := 0) dX5_raiseHeights_56 rfl rfl rfl ?_
          refine SW.getR (q := 60) (i := 1) (j := 9) fX5_39 rfl rfl dX5_raiseHeights_57 rfl ?_
          refine SW.iload_n (q := 61) (i := 1) dX5_raiseHeights_60 rfl rfl rfl ?_
          refine SW.cF (q := 64) (C_X3_atn (i := 9) (j := 35) (n := 30) rfl rfl (k := k) rfl (by omega)) vX5_77 (by decide) rfl rfl rfl rfl (Nat.le_of_ble_eq_true rfl) dX5_raiseHeights_61 rfl ?_
          refine SW.aload_n (q := 65) (i := 0) dX5_raiseHeights_64 rfl rfl rfl ?_
          refine SW.getI (q := 68) (i := 1) fX5_24 rfl rfl dX5_raiseHeights_65 rfl ?_
          refine SW.isub (q := 69) dX5_raiseHeights_68 rfl ?_
          refine SW.istore_n (q := 70) (i := 3) dX5_raiseHeights_69 rfl (by decide) rfl ?_
          refine SW.iload_n (q := 71) (i := 2) dX5_raiseHeights_70 rfl rfl rfl ?_
          refine SW.iconst (q := 72) (v := 0) dX5_raiseHeights_71 (by decide) rfl ?_
          refine SW.aload_n (q := 73) (i := 0) dX5_raiseHeights_72 rfl rfl rfl ?_
          refine SW.getI (q := 76) (i := 1) fX5_15 rfl rfl dX5_raiseHeights_73 rfl ?_
          refine SW.iconst (q := 77) (v := 1) dX5_raiseHeights_76 (by decide) rfl ?_
          refine SW.isub (q := 78) dX5_raiseHeights_77 rfl ?_
          refine SW.snF (q := 81) (C_X7_within) vX5_81 (by decide) rfl rfl (Nat.le_of_ble_eq_true rfl) dX5_raiseHeights_78 rfl ?_
          refine SW.if_eq (q := 84) (tgt := 121) dX5_raiseHeights_81 (by decide) rfl (fun c81 => absurd c81 ((by rw [x1, t3, t1]; exact fun z => (gr_wi b1 (by omega) (by omega) (by omega)).mp z hx))) (fun _ => ?_)
          refine SW.iload_n (q := 85) (i := 3) dX5_raiseHeights_84 rfl rfl rfl ?_
          refine SW.iconst (q := 86) (v := 0) dX5_raiseHeights_85 (by decide) rfl ?_
          refine SW.aload_n (q := 87) (i := 0) dX5_raiseHeights_86 rfl rfl rfl ?_
          refine SW.getI (q := 90) (i := 1) fX5_15 rfl rfl dX5_raiseHeights_87 rfl ?_
          refine SW.iconst (q := 91) (v := 1) dX5_raiseHeights_90 (by decide) rfl ?_
          refine SW.isub (q := 92) dX5_raiseHeights_91 rfl ?_
          refine SW.snF (q := 95) (C_X7_within) vX5_81 (by decide) rfl rfl (Nat.le_of_ble_eq_true rfl) dX5_raiseHeights_92 rfl ?_
          refine SW.if_eq (q := 98) (tgt := 121) dX5_raiseHeights_95 (by decide) rfl (fun _ => ?_) (fun c95 => absurd ((by rw [y1, t4, t1]; exact (gr_wi b2 (by omega) (by omega) (by omega)).mpr hy)) c95)
          refine SW.iinc (q := 124) (v := _ + 1) dX5_raiseHeights_121 rfl rfl (by decide) rfl ?_
          refine SW.goto (q := 34) dX5_raiseHeights_124 (by decide) ?_
          exact SW.eq (by rw [nI_1]; rfl) rfl rfl (ih (k + 1) (by omega) _ _ _ hf (miss (fun z => hy z.2)))
      · refine SW.iload_n (q := 35) (i := 1) dX5_raiseHeights_34 rfl rfl rfl ?_
        refine SW.aload_n (q := 36) (i := 0) dX5_raiseHeights_35 rfl rfl rfl ?_
        refine SW.getI (q := 39) (i := 1) fX5_27 rfl rfl dX5_raiseHeights_36 rfl ?_
        refine SW.icmp_ge (q := 42) (tgt := 127) dX5_raiseHeights_39 (by decide) rfl (fun c39 => absurd c39 ((by rw [hf 1 (by decide), hc]; exact nI_ge (by omega) (by omega)))) (fun _ => ?_)
        refine SW.aload_n (q := 43) (i := 0) dX5_raiseHeights_42 rfl rfl rfl ?_
        refine SW.getR (q := 46) (i := 1) (j := 8) fX5_35 rfl rfl dX5_raiseHeights_43 rfl ?_
        refine SW.iload_n (q := 47) (i := 1) dX5_raiseHeights_46 rfl rfl rfl ?_
        refine SW.cF (q := 50) (C_X3_atn (i := 8) (j := 34) (n := 30) rfl rfl (k := k) rfl (by omega)) vX5_77 (by decide) rfl rfl rfl rfl (Nat.le_of_ble_eq_true rfl) dX5_raiseHeights_47 rfl ?_
        refine SW.aload_n (q := 51) (i := 0) dX5_raiseHeights_50 rfl rfl rfl ?_
        refine SW.getI (q := 54) (i := 1) fX5_21 rfl rfl dX5_raiseHeights_51 rfl ?_
        refine SW.isub (q := 55) dX5_raiseHeights_54 rfl ?_
        refine SW.istore_n (q := 56) (i := 2) dX5_raiseHeights_55 rfl (by decide) rfl ?_
        refine SW.aload_n (q := 57) (i := 0) dX5_raiseHeights_56 rfl rfl rfl ?_
        refine SW.getR (q := 60) (i := 1) (j := 9) fX5_39 rfl rfl dX5_raiseHeights_57 rfl ?_
        refine SW.iload_n (q := 61) (i := 1) dX5_raiseHeights_60 rfl rfl rfl ?_
        refine SW.cF (q := 64) (C_X3_atn (i := 9) (j := 35) (n := 30) rfl rfl (k := k) rfl (by omega)) vX5_77 (by decide) rfl rfl rfl rfl (Nat.le_of_ble_eq_true rfl) dX5_raiseHeights_61 rfl ?_
        refine SW.aload_n (q := 65) (i := 0) dX5_raiseHeights_64 rfl rfl rfl ?_
        refine SW.getI (q := 68) (i := 1) fX5_24 rfl rfl dX5_raiseHeights_65 rfl ?_
        refine SW.isub (q := 69) dX5_raiseHeights_68 rfl ?_
        refine SW.istore_n (q := 70) (i := 3) dX5_raiseHeights_69 rfl (by decide) rfl ?_
        refine SW.iload_n (q := 71) (i := 2) dX5_raiseHeights_70 rfl rfl rfl ?_
        refine SW.iconst (q := 72) (v := 0) dX5_raiseHeights_71 (by decide) rfl ?_
        refine SW.aload_n (q := 73) (i := 0) dX5_raiseHeights_72 rfl rfl rfl ?_
        refine SW.getI (q := 76) (i := 1) fX5_15 rfl rfl dX5_raiseHeights_73 rfl ?_
        refine SW.iconst (q := 77) (v := 1) dX5_raiseHeights_76 (by decide) rfl ?_
        refine SW.isub (q := 78) dX5_raiseHeights_77 rfl ?_
        refine SW.snF (q := 81) (C_X7_within) vX5_81 (by decide) rfl rfl (Nat.le_of_ble_eq_true rfl) dX5_raiseHeights_78 rfl ?_
        refine SW.if_eq (q := 84) (tgt := 121) dX5_raiseHeights_81 (by decide) rfl (fun _ => ?_) (fun c81 => absurd ((by rw [x1, t3, t1]; exact (gr_wi b1 (by omega) (by omega) (by omega)).mpr hx)) c81)
        refine SW.iinc (q := 124) (v := _ + 1) dX5_raiseHeights_121 rfl rfl (by decide) rfl ?_
        refine SW.goto (q := 34) dX5_raiseHeights_124 (by decide) ?_
        exact SW.eq (by rw [nI_1]; rfl) rfl rfl (ih (k + 1) (by omega) _ _ _ hf (miss (fun z => hx z.1)))
  have L1 : ∀ (m k : Nat), k + m = n * n → ∀ (A B : Value) (τ : sw_Sg), fr_ [40] σ τ → (∀ p, p < k → τ 40 p = σ 39 p) →
      SW X 2 mX5_raiseHeights sw_E0 (sw_Rv (fun u => fr_ [40] σ u ∧ ∀ p, p < n * n → u 40 p = gr_cl (gr_hs (σ 34) (σ 35) (σ 36) (σ 39 p) (nI (a + p % n)) (nI (b + p / n)) c))) 2 [.ref (sw_ad X 1), .int (nI k), A, B] [] τ := by
    intro m
    induction m with
    | zero =>
      intro k hk A B τ hf h1
      obtain rfl : k = n * n := by omega
      refine SW.iload_n (q := 3) (i := 1) dX5_raiseHeights_2 rfl rfl rfl ?_
      refine SW.aload_n (q := 4) (i := 0) dX5_raiseHeights_3 rfl rfl rfl ?_
      refine SW.getI (q := 7) (i := 1) fX5_18 rfl rfl dX5_raiseHeights_4 rfl ?_
      refine SW.icmp_ge (q := 10) (tgt := 32) dX5_raiseHeights_7 (by decide) rfl (fun _ => ?_) (fun c7 => absurd ((by rw [hf 1 (by decide), hpl]; exact Int32.le_refl _)) c7)
      refine SW.iconst (q := 33) (v := 0) dX5_raiseHeights_32 (by decide) rfl ?_
      refine SW.istore_n (q := 34) (i := 1) dX5_raiseHeights_33 rfl (by decide) rfl ?_
      exact L2 c 0 (by omega) A B τ hf (fun p hp => h1 p hp)
    | succ m ih =>
      intro k hk A B τ hf h1
      refine SW.iload_n (q := 3) (i := 1) dX5_raiseHeights_2 rfl rfl rfl ?_
      refine SW.aload_n (q := 4) (i := 0) dX5_raiseHeights_3 rfl rfl rfl ?_
      refine SW.getI (q := 7) (i := 1) fX5_18 rfl rfl dX5_raiseHeights_4 rfl ?_
      refine SW.icmp_ge (q := 10) (tgt := 32) dX5_raiseHeights_7 (by decide) rfl (fun c7 => absurd c7 ((by rw [hf 1 (by decide), hpl]; exact nI_ge (by omega) (by omega)))) (fun _ => ?_)
      refine SW.aload_n (q := 11) (i := 0) dX5_raiseHeights_10 rfl rfl rfl ?_
      refine SW.getR (q := 14) (i := 1) (j := 14) fX5_54 rfl rfl dX5_raiseHeights_11 rfl ?_
      refine SW.iload_n (q := 15) (i := 1) dX5_raiseHeights_14 rfl rfl rfl ?_
      refine SW.aload_n (q := 16) (i := 0) dX5_raiseHeights_15 rfl rfl rfl ?_
      refine SW.getR (q := 19) (i := 1) (j := 13) fX5_51 rfl rfl dX5_raiseHeights_16 rfl ?_
      refine SW.iload_n (q := 20) (i := 1) dX5_raiseHeights_19 rfl rfl rfl ?_
      refine SW.cF (q := 23) (C_X3_atn (i := 13) (j := 39) (n := 576) rfl rfl (k := k) rfl (by omega)) vX5_77 (by decide) rfl rfl rfl rfl (Nat.le_of_ble_eq_true rfl) dX5_raiseHeights_20 rfl ?_
      refine SW.cG (q := 26) (C_X3_putn (i := 14) (j := 40) (n := 576) rfl rfl (k := k) rfl (by omega)) vX5_57 (by decide) rfl rfl rfl rfl (Nat.le_of_ble_eq_true rfl) dX5_raiseHeights_23 rfl ?_
      refine SW.iinc (q := 29) (v := _ + 1) dX5_raiseHeights_26 rfl rfl (by decide) rfl ?_
      refine SW.goto (q := 2) dX5_raiseHeights_29 (by decide) ?_
      refine SW.eq (by rw [nI_1]; rfl) rfl rfl (ih (k + 1) (by omega) A B _ (fr_up hf (by decide)) (fun p hp => ?_))
      by_cases e : p = k
      · subst e; rw [sw_i1, hf 39 (by decide)]
      · rw [sw_o1 e]; exact h1 p (by omega)
  refine SW.iconst (q := 1) (v := 0) dX5_raiseHeights_0 (by decide) rfl ?_
  refine SW.istore_n (q := 2) (i := 1) dX5_raiseHeights_1 rfl (by decide) rfl ?_
  exact L1 (n * n) 0 (by omega) _ _ σ fr_rf (fun p hp => by omega)
end RAISE
