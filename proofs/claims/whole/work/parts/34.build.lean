/-! THE NET in the class -/
/-- the places under the first i roads -/
noncomputable def nr_rd (n : Nat) (h : Nat → Nat) (kd : Nat → Int32) (br : Nat) (D : Nat → Nat → Option Nat) (pl : Nat → Nat) (T : nj_T) : Nat → Nat → Int32
  | 0 => fun _ => 0
  | i + 1 => nt_ly (fun a => nt_nx n h kd br (D (T.g i)) a 4) (n * n) (some (pl (T.f i))) (nr_rd n h kd br D pl T i)
theorem ly_congr {N : Nat → Option Nat} {P : Nat} (hlt : ∀ a b, a < P → N a = some b → b < P) : ∀ k o (g g' : Nat → Int32), (∀ b, o = some b → b < P) → (∀ v, v < P → g v = g' v) → ∀ v, v < P → nt_ly N k o g v = nt_ly N k o g' v := by
  intro k
  induction k with
  | zero => intro o g g' ho h v hv; exact h v hv
  | succ k ih =>
    intro o g g' ho h v hv
    cases o with
    | none => exact h v hv
    | some p =>
      have hp := ho p rfl
      refine ih (N p) _ _ (fun b hb => hlt p b hp hb) (fun w hw => ?_) v hv
      by_cases z : w = p
      · subst z; rw [upd_i, upd_i, h w hw]
      · rw [upd_o z, upd_o z, h w hw]
def nk_N (n : Nat) (h : Nat → Nat) (kd : Nat → Int32) (br m : Nat) (pl : Nat → Nat) (D : Nat → Nat → Option Nat) (T : nj_T) : Prop := (∀ t, t < m → nt_ok n h kd br (pl t) (D t)) ∧ nj_R D pl m (m - 1) T
section BUILD
variable {X : sw_X} {σ τ : sw_Sg} {x y v w st : Int32} {n p q br s t m c : Nat} {h : Nat → Nat} {kd : Nat → Int32} {d : Nat → Option Nat} {D : Nat → Nat → Option Nat} {pl : Nat → Nat} {T : nj_T}
theorem nt_bd (n24 : n ≤ 24) (h : nt_ok n h kd br s d) : ∀ v c, d v = some c → c ≤ 300000 := by
  intro v c e
  have := (h.2.1 v c e).2.1
  have := gr_576 n24
  omega
/-- what the class's net holds -/
def nk_F (n : Nat) (h : Nat → Nat) (kd : Nat → Int32) (br m : Nat) (pl : Nat → Nat) (D : Nat → Nat → Option Nat) (T : nj_T) (u : sw_Sg) : Prop :=
  nk_N n h kd br m pl D T ∧ u 5 4 = nI br ∧ (∀ t, t < m → nt_lab n t (D t) u) ∧ nc_T m T u ∧ ∀ v, v < n * n → u 55 v = nr_rd n h kd br D pl T T.k v
theorem C_X1_build (hG : ww_G n h σ) (hkd : σ 48 = kd) (b100 : br ≤ 100) (hP : nc_P n m pl σ) (hx : x = nI br) :
    sw_Mv X 4 mX1_build [.ref (sw_ad X 5), .ref (sw_ad X 1), .ref (sw_ad X 2), .ref (sw_ad X 4), .ref (sw_ad X 6), .int x] σ (fun u => fr_ [5, 6, 54, 55, 56, 57, 58] σ u ∧ ∃ D T, nk_F n h kd br m pl D T u) := by
  subst hx
  have n24 : n ≤ 24 := hG.1.2.1
  have h576 := gr_576 n24
  obtain ⟨pm, m6, pp⟩ := hP
  refine sw_ME.ofF (by decide +kernel) rfl (Nat.le_of_ble_eq_true rfl) rfl ?_
  have roads : ∀ (D : Nat → Nat → Option Nat) (T : nj_T), nk_N n h kd br m pl D T → ∀ (k i : Nat), i + k = T.k → ∀ (τ : sw_Sg), fr_ [5, 6, 54, 55, 56, 57, 58] σ τ → τ 5 4 = nI br → (∀ t, t < m → nt_lab n t (D t) τ) → nc_T m T τ → (∀ v, v < n * n → τ 55 v = nr_rd n h kd br D pl T i v) →
      SW X 4 mX1_build sw_E0 (sw_Rv (fun u => fr_ [5, 6, 54, 55, 56, 57, 58] σ u ∧ ∃ D T, nk_F n h kd br m pl D T u)) 120 [.ref (sw_ad X 5), .ref (sw_ad X 1), .ref (sw_ad X 2), .ref (sw_ad X 4), .ref (sw_ad X 6), .int (nI br), .int (nI i)] [] τ := by
    intro D T hN k
    have hI := nj_R_I _ T hN.2
    have hIk := hI.k
    induction k with
    | zero =>
      intro i hi τ hf hb hl hT hr
      obtain rfl : i = T.k := by omega
      refine SW.iload (q := 122) (i := 6) dX1_build_120 rfl rfl ?_
      refine SW.aload_n (q := 123) (i := 0) dX1_build_122 rfl rfl rfl ?_
      refine SW.getI (q := 126) (i := 5) fX1_39 rfl rfl dX1_build_123 rfl ?_
      refine SW.icmp_ge (q := 129) (tgt := 172) dX1_build_126 (by decide) rfl (fun _ => ?_) (fun c126 => absurd ((by rw [hT.2.2.1]; exact Int32.le_refl _)) c126)
      refine SW.vretR rfl dX1_build_172 ?_
      exact ⟨hf, D, T, hN, hb, hl, hT, hr⟩
    | succ k ih =>
      intro i hi τ hf hb hl hT hr
      have hi2 : i < T.k := by omega
      obtain ⟨f1, f2, f3, f4⟩ := hI.1 i hi2
      obtain ⟨r1, r2⟩ := hT.2.2.2.2 i hi2
      obtain ⟨p1, p2⟩ := pp (T.f i) f1
      have mul2 : (2 : Int32) * nI i = nI (2 * i) := pk_mul 2 i
      have e53 : τ 53 (T.f i) = nI (pl (T.f i)) := by rw [hf 53 (by decide)]; exact p1
      have hG2 : nk_G n h kd br τ := ⟨hG.fr hf (by decide) (by decide) (by decide) (by decide), by rw [hf 48 (by decide)]; exact hkd, hb, b100⟩
      have ok := hN.1 (T.g i) f2
      refine SW.iload (q := 122) (i := 6) dX1_build_120 rfl rfl ?_
      refine SW.aload_n (q := 123) (i := 0) dX1_build_122 rfl rfl rfl ?_
      refine SW.getI (q := 126) (i := 5) fX1_39 rfl rfl dX1_build_123 rfl ?_
      refine SW.icmp_ge (q := 129) (tgt := 172) dX1_build_126 (by decide) rfl (fun c126 => absurd c126 ((by rw [hT.2.2.1]; exact nI_ge (by omega) (by omega)))) (fun _ => ?_)
      refine SW.aload_n (q := 130) (i := 0) dX1_build_129 rfl rfl rfl ?_
      refine SW.aload_n (q := 131) (i := 1) dX1_build_130 rfl rfl rfl ?_
      refine SW.aload_n (q := 132) (i := 2) dX1_build_131 rfl rfl rfl ?_
      refine SW.aload_n (q := 133) (i := 3) dX1_build_132 rfl rfl rfl ?_
      refine SW.getR (q := 136) (i := 4) (j := 27) fX1_47 rfl rfl dX1_build_133 rfl ?_
      refine SW.aload_n (q := 137) (i := 0) dX1_build_136 rfl rfl rfl ?_
      refine SW.getR (q := 140) (i := 5) (j := 31) fX1_26 rfl rfl dX1_build_137 rfl ?_
      refine SW.iconst (q := 141) (v := 2) dX1_build_140 (by decide) rfl ?_
      refine SW.iload (q := 143) (i := 6) dX1_build_141 rfl rfl ?_
      refine SW.imul (q := 144) dX1_build_143 rfl ?_
      refine SW.cF (q := 147) (C_X3_atn (i := 31) (j := 57) (n := 12) rfl rfl (k := 2 * i) mul2 (by omega)) vX1_50 (by decide) rfl rfl rfl rfl (Nat.le_of_ble_eq_true rfl) dX1_build_144 rfl ?_
      refine SW.cF (q := 150) (C_X3_atn (i := 27) (j := 53) (n := 6) rfl rfl (k := T.f i) r1 (by omega)) vX1_50 (by decide) rfl rfl rfl rfl (Nat.le_of_ble_eq_true rfl) dX1_build_147 rfl ?_
      refine SW.aload_n (q := 151) (i := 0) dX1_build_150 rfl rfl rfl ?_
      refine SW.getR (q := 154) (i := 5) (j := 31) fX1_26 rfl rfl dX1_build_151 rfl ?_
      refine SW.iconst (q := 155) (v := 2) dX1_build_154 (by decide) rfl ?_
      refine SW.iload (q := 157) (i := 6) dX1_build_155 rfl rfl ?_
      refine SW.imul (q := 158) dX1_build_157 rfl ?_
      refine SW.iconst (q := 159) (v := 1) dX1_build_158 (by decide) rfl ?_
      refine SW.iadd (q := 160) dX1_build_159 rfl ?_
      refine SW.cF (q := 163) (C_X3_atn (i := 31) (j := 57) (n := 12) rfl rfl (k := 2 * i + 1) (by rw [mul2, nI_1]) (by omega)) vX1_50 (by decide) rfl rfl rfl rfl (Nat.le_of_ble_eq_true rfl) dX1_build_160 rfl ?_
      refine SW.cV (q := 166) (C_X1_layRoad (d := D (T.g i)) (t := T.g i) hG2 (by omega) (nt_bd n24 ok) (hl (T.g i) f2) e53 p2 r2) vX1_69 (by decide) rfl rfl rfl rfl (Nat.le_of_ble_eq_true rfl) dX1_build_163 rfl (fun u163 r163 => ?_)
      obtain ⟨g1, g2⟩ := r163
      refine SW.iinc (q := 169) (v := _ + 1) dX1_build_166 rfl rfl (by decide) rfl ?_
      refine SW.goto (q := 120) dX1_build_169 (by decide) ?_
      refine SW.eq (by rw [nI_1]; rfl) rfl rfl (ih (i + 1) (by omega) u163 (fr_tr hf g1 (by decide)) (by rw [g1 5 (by decide)]; exact hb) (fun t ht v hv => by rw [g1 54 (by decide)]; exact hl t ht v hv) ?_ (fun v hv => ?_))
      · unfold nc_T
        rw [g1 5 (by decide), g1 56 (by decide), g1 57 (by decide)]; exact hT
      · rw [g2]
        exact ly_congr (P := n * n) nx_lt (n * n) (some (pl (T.f i))) _ _ (fun b e => by cases e; exact p2) hr v hv
  have joins : ∀ (D : Nat → Nat → Option Nat), (∀ t, t < m → nt_ok n h kd br (pl t) (D t)) → ∀ (k j : Nat), j + k = m - 1 → ∀ (T : nj_T) (τ : sw_Sg), nj_R D pl m j T → fr_ [5, 6, 54, 55, 56, 57, 58] σ τ → τ 5 4 = nI br → (∀ t, t < m → nt_lab n t (D t) τ) → nc_T m T τ →
      SW X 4 mX1_build sw_E0 (sw_Rv (fun u => fr_ [5, 6, 54, 55, 56, 57, 58] σ u ∧ ∃ D T, nk_F n h kd br m pl D T u)) 89 [.ref (sw_ad X 5), .ref (sw_ad X 1), .ref (sw_ad X 2), .ref (sw_ad X 4), .ref (sw_ad X 6), .int (nI br), .int (nI (j + 1))] [] τ := by
    intro D hD k
    induction k with
    | zero =>
      intro j hj T τ hR hf hb hl hT
      obtain rfl : j = m - 1 := by omega
      refine SW.iload (q := 91) (i := 6) dX1_build_89 rfl rfl ?_
      refine SW.aload_n (q := 92) (i := 3) dX1_build_91 rfl rfl rfl ?_
      refine SW.getI (q := 95) (i := 4) fX1_42 rfl rfl dX1_build_92 rfl ?_
      refine SW.icmp_ge (q := 98) (tgt := 109) dX1_build_95 (by decide) rfl (fun _ => ?_) (fun c95 => absurd ((by rw [hf 4 (by decide), pm]; exact nI_le (by omega) (by omega))) c95)
      refine SW.aload_n (q := 110) (i := 0) dX1_build_109 rfl rfl rfl ?_
      refine SW.getR (q := 113) (i := 5) (j := 29) fX1_20 rfl rfl dX1_build_110 rfl ?_
      refine SW.iconst (q := 114) (v := 0) dX1_build_113 (by decide) rfl ?_
      refine SW.cG (q := 117) (C_X3_fill rfl rfl) vX1_58 (by decide) rfl rfl rfl rfl (Nat.le_of_ble_eq_true rfl) dX1_build_114 rfl ?_
      refine SW.iconst (q := 118) (v := 0) dX1_build_117 (by decide) rfl ?_
      refine SW.istore (q := 120) (i := 6) dX1_build_118 (by decide) rfl ?_
      refine roads D T ⟨hD, hR⟩ T.k 0 (by omega) _ (fr_tr hf (l' := [55]) (fun l hl => sw_row_o (fun e => hl (by rw [e]; decide))) (by decide)) ?_ (fun t ht v hv => ?_) ?_ (fun v hv => ?_)
      · rw [sw_row_o (by decide)]; exact hb
      · rw [sw_row_o (by decide)]; exact hl t ht v hv
      · unfold nc_T; rw [sw_row_o (by decide), sw_row_o (by decide), sw_row_o (by decide)]; exact hT
      · rw [sw_row_i, if_pos (by omega)]; rfl
    | succ k ih =>
      intro j hj T τ hR hf hb hl hT
      refine SW.iload (q := 91) (i := 6) dX1_build_89 rfl rfl ?_
      refine SW.aload_n (q := 92) (i := 3) dX1_build_91 rfl rfl rfl ?_
      refine SW.getI (q := 95) (i := 4) fX1_42 rfl rfl dX1_build_92 rfl ?_
      refine SW.icmp_ge (q := 98) (tgt := 109) dX1_build_95 (by decide) rfl (fun c95 => absurd c95 ((by rw [hf 4 (by decide), pm]; exact nI_ge (by omega) (by omega)))) (fun _ => ?_)
      refine SW.aload_n (q := 99) (i := 0) dX1_build_98 rfl rfl rfl ?_
      refine SW.aload_n (q := 100) (i := 3) dX1_build_99 rfl rfl rfl ?_
      refine SW.cV (q := 103) (C_X1_joinCheapest (n := n) (m := m) (pl := pl) (D := D) (T := T) ⟨by rw [hf 4 (by decide)]; exact pm, m6, fun a ha => by rw [hf 53 (by decide)]; exact pp a ha⟩ n24 hl (fun t v c ht e => nt_bd n24 (hD t ht) v c e) hT (nj_R_I _ T hR)) vX1_65 (by decide) rfl rfl rfl rfl (Nat.le_of_ble_eq_true rfl) dX1_build_100 rfl (fun u100 r100 => ?_)
      obtain ⟨g1, g2, r, g3, g4⟩ := r100
      refine SW.iinc (q := 106) (v := _ + 1) dX1_build_103 rfl rfl (by decide) rfl ?_
      refine SW.goto (q := 89) dX1_build_106 (by decide) ?_
      exact SW.eq (by rw [nI_1]; rfl) rfl rfl (ih (j + 1) (by omega) _ u100 ⟨T, r, hR, g3, rfl⟩ (fr_tr hf g1 (by decide)) (by rw [g2]; exact hb) (fun t ht v hv => by rw [g1 54 (by decide)]; exact hl t ht v hv) g4)
  have mid : ∀ (D : Nat → Nat → Option Nat), (∀ t, t < m → nt_ok n h kd br (pl t) (D t)) → ∀ (τ : sw_Sg) (v : Int32), v = nI (0 + (if 0 < m then 1 else 0)) → fr_ [5, 6, 54, 55, 56, 57, 58] σ τ → τ 5 4 = nI br → (∀ t, t < m → nt_lab n t (D t) τ) → ∀ A,
      SW X 4 mX1_build sw_E0 (sw_Rv (fun u => fr_ [5, 6, 54, 55, 56, 57, 58] σ u ∧ ∃ D T, nk_F n h kd br m pl D T u)) 56 [.ref (sw_ad X 5), .ref (sw_ad X 1), .ref (sw_ad X 2), .ref (sw_ad X 4), .ref (sw_ad X 6), .int (nI br), A] [.int v, .ref (sw_ad X 5)] τ := by
    intro D hD τ v hv hf hb hl A
    refine SW.putI (q := 59) (i := 5) pX1_33 rfl rfl dX1_build_56 rfl ?_
    refine SW.aload_n (q := 60) (i := 0) dX1_build_59 rfl rfl rfl ?_
    refine SW.iconst (q := 61) (v := 0) dX1_build_60 (by decide) rfl ?_
    refine SW.putI (q := 64) (i := 5) pX1_36 rfl rfl dX1_build_61 rfl ?_
    refine SW.aload_n (q := 65) (i := 0) dX1_build_64 rfl rfl rfl ?_
    refine SW.iconst (q := 66) (v := 0) dX1_build_65 (by decide) rfl ?_
    refine SW.putI (q := 69) (i := 5) pX1_39 rfl rfl dX1_build_66 rfl ?_
    refine SW.aload_n (q := 70) (i := 0) dX1_build_69 rfl rfl rfl ?_
    refine SW.getR (q := 73) (i := 5) (j := 30) fX1_23 rfl rfl dX1_build_70 rfl ?_
    refine SW.iconst (q := 74) (v := 0) dX1_build_73 (by decide) rfl ?_
    refine SW.cG (q := 77) (C_X3_fill rfl rfl) vX1_58 (by decide) rfl rfl rfl rfl (Nat.le_of_ble_eq_true rfl) dX1_build_74 rfl ?_
    refine SW.aload_n (q := 78) (i := 0) dX1_build_77 rfl rfl rfl ?_
    refine SW.getR (q := 81) (i := 5) (j := 30) fX1_23 rfl rfl dX1_build_78 rfl ?_
    refine SW.iconst (q := 82) (v := 0) dX1_build_81 (by decide) rfl ?_
    refine SW.iconst (q := 83) (v := 1) dX1_build_82 (by decide) rfl ?_
    refine SW.cG (q := 86) (C_X3_putn (i := 30) (j := 56) (n := 6) rfl rfl (k := 0) rfl (by decide)) vX1_61 (by decide) rfl rfl rfl rfl (Nat.le_of_ble_eq_true rfl) dX1_build_83 rfl ?_
    refine SW.iconst (q := 87) (v := 1) dX1_build_86 (by decide) rfl ?_
    refine SW.istore (q := 89) (i := 6) dX1_build_87 (by decide) rfl ?_
    refine joins D hD (m - 1) 0 (by omega) nj_0 _ rfl ?_ ?_ (fun t ht v hv => ?_) ⟨?_, ?_, ?_, fun a ha => ?_, fun i hi => absurd hi (Nat.not_lt_zero _)⟩
    · exact fr_up (fr_tr (fr_up (fr_up (fr_up hf (by decide)) (by decide)) (by decide)) (l' := [56]) (fun l hl => sw_row_o (fun e => hl (by rw [e]; decide))) (by decide)) (by decide)
    · rw [sw_un (by decide), sw_row_o (by decide), sw_o1 (by decide), sw_o1 (by decide), sw_o1 (by decide)]; exact hb
    · rw [sw_un (by decide), sw_row_o (by decide), sw_un (by decide), sw_un (by decide), sw_un (by decide)]; exact hl t ht v hv
    · rw [sw_un (by decide), sw_row_o (by decide), sw_o1 (by decide), sw_o1 (by decide), sw_i1]; exact hv
    · rw [sw_un (by decide), sw_row_o (by decide), sw_o1 (by decide), sw_i1]; rfl
    · rw [sw_un (by decide), sw_row_o (by decide), sw_i1]; rfl
    · by_cases z : a = 0
      · subst z; exact ⟨fun _ => sw_i1, fun w => absurd (Or.inl rfl) w⟩
      · rw [sw_o1 z, sw_row_i, if_pos (by omega)]
        exact ⟨fun w => w.elim (fun e => absurd e z) (fun ⟨i, i1, _⟩ => absurd i1 (Nat.not_lt_zero _)), fun _ => rfl⟩
  have costs : ∀ (k t : Nat), t + k = m → ∀ (D : Nat → Nat → Option Nat) (τ : sw_Sg), (∀ t', t' < t → nt_ok n h kd br (pl t') (D t') ∧ nt_lab n t' (D t') τ) → fr_ [5, 6, 54, 55, 56, 57, 58] σ τ → τ 5 4 = nI br →
      SW X 4 mX1_build sw_E0 (sw_Rv (fun u => fr_ [5, 6, 54, 55, 56, 57, 58] σ u ∧ ∃ D T, nk_F n h kd br m pl D T u)) 9 [.ref (sw_ad X 5), .ref (sw_ad X 1), .ref (sw_ad X 2), .ref (sw_ad X 4), .ref (sw_ad X 6), .int (nI br), .int (nI t)] [] τ := by
    intro k
    induction k with
    | zero =>
      intro t ht D τ hD hf hb
      obtain rfl : t = m := by omega
      have em : τ 4 2 = nI t := by rw [hf 4 (by decide)]; exact pm
      by_cases z : t = 0
      · subst z
        refine SW.iload (q := 11) (i := 6) dX1_build_9 rfl rfl ?_
        refine SW.aload_n (q := 12) (i := 3) dX1_build_11 rfl rfl rfl ?_
        refine SW.getI (q := 15) (i := 4) fX1_42 rfl rfl dX1_build_12 rfl ?_
        refine SW.icmp_ge (q := 18) (tgt := 43) dX1_build_15 (by decide) rfl (fun _ => ?_) (fun c15 => absurd ((by rw [em]; exact Int32.le_refl _)) c15)
        refine SW.aload_n (q := 44) (i := 0) dX1_build_43 rfl rfl rfl ?_
        refine SW.aload_n (q := 45) (i := 3) dX1_build_44 rfl rfl rfl ?_
        refine SW.getI (q := 48) (i := 4) fX1_42 rfl rfl dX1_build_45 rfl ?_
        refine SW.if_le (q := 51) (tgt := 55) dX1_build_48 (by decide) rfl (fun _ => ?_) (fun c48 => absurd ((by rw [em]; decide)) c48)
        refine SW.iconst (q := 56) (v := 0) dX1_build_55 (by decide) rfl ?_
        exact mid D (fun t' h => (hD t' h).1) τ _ rfl hf hb (fun t' h => (hD t' h).2) _
      · refine SW.iload (q := 11) (i := 6) dX1_build_9 rfl rfl ?_
        refine SW.aload_n (q := 12) (i := 3) dX1_build_11 rfl rfl rfl ?_
        refine SW.getI (q := 15) (i := 4) fX1_42 rfl rfl dX1_build_12 rfl ?_
        refine SW.icmp_ge (q := 18) (tgt := 43) dX1_build_15 (by decide) rfl (fun _ => ?_) (fun c15 => absurd ((by rw [em]; exact Int32.le_refl _)) c15)
        refine SW.aload_n (q := 44) (i := 0) dX1_build_43 rfl rfl rfl ?_
        refine SW.aload_n (q := 45) (i := 3) dX1_build_44 rfl rfl rfl ?_
        refine SW.getI (q := 48) (i := 4) fX1_42 rfl rfl dX1_build_45 rfl ?_
        refine SW.if_le (q := 51) (tgt := 55) dX1_build_48 (by decide) rfl (fun c48 => absurd c48 ((by rw [em]; exact fun y => absurd y (nI_ge (a := 0) (by omega) (by omega))))) (fun _ => ?_)
        refine SW.iconst (q := 52) (v := 1) dX1_build_51 (by decide) rfl ?_
        refine SW.goto (q := 56) dX1_build_52 (by decide) ?_
        exact mid D (fun t' h => (hD t' h).1) τ _ (by rw [if_pos (by omega)]; rfl) hf hb (fun t' h => (hD t' h).2) _
    | succ k ih =>
      intro t ht D τ hD hf hb
      obtain ⟨p1, p2⟩ := pp t (by omega)
      have em : τ 4 2 = nI m := by rw [hf 4 (by decide)]; exact pm
      refine SW.iload (q := 11) (i := 6) dX1_build_9 rfl rfl ?_
      refine SW.aload_n (q := 12) (i := 3) dX1_build_11 rfl rfl rfl ?_
      refine SW.getI (q := 15) (i := 4) fX1_42 rfl rfl dX1_build_12 rfl ?_
      refine SW.icmp_ge (q := 18) (tgt := 43) dX1_build_15 (by decide) rfl (fun c15 => absurd c15 ((by rw [em]; exact nI_ge (by omega) (by omega)))) (fun _ => ?_)
      refine SW.aload_n (q := 19) (i := 0) dX1_build_18 rfl rfl rfl ?_
      refine SW.aload_n (q := 20) (i := 1) dX1_build_19 rfl rfl rfl ?_
      refine SW.aload_n (q := 21) (i := 2) dX1_build_20 rfl rfl rfl ?_
      refine SW.aload (q := 23) (i := 4) dX1_build_21 rfl rfl ?_
      refine SW.iload (q := 25) (i := 6) dX1_build_23 rfl rfl ?_
      refine SW.aload_n (q := 26) (i := 3) dX1_build_25 rfl rfl rfl ?_
      refine SW.getR (q := 29) (i := 4) (j := 27) fX1_47 rfl rfl dX1_build_26 rfl ?_
      refine SW.iload (q := 31) (i := 6) dX1_build_29 rfl rfl ?_
      refine SW.cF (q := 34) (C_X3_atn (i := 27) (j := 53) (n := 6) rfl rfl (k := t) rfl (by omega)) vX1_50 (by decide) rfl rfl rfl rfl (Nat.le_of_ble_eq_true rfl) dX1_build_31 rfl ?_
      rw [hf 53 (by decide), p1]
      refine SW.cV (q := 37) (C_X1_findCosts (n := n) (h := h) (kd := kd) (br := br) (s := pl t) (t := t) (hG.fr hf (by decide) (by decide) (by decide) (by decide)) (by rw [hf 48 (by decide)]; exact hkd) hb b100 (by omega) p2) vX1_54 (by decide) rfl rfl rfl rfl (Nat.le_of_ble_eq_true rfl) dX1_build_34 rfl (fun u34 r34 => ?_)
      obtain ⟨g1, g2, d, g3, g4⟩ := r34
      refine SW.iinc (q := 40) (v := _ + 1) dX1_build_37 rfl rfl (by decide) rfl ?_
      refine SW.goto (q := 9) dX1_build_40 (by decide) ?_
      refine SW.eq (by rw [nI_1]; rfl) rfl rfl (ih (t + 1) (by omega) (va_up D t d) u34 (fun t' h' => ?_) (fr_tr hf g1 (by decide)) (by rw [g1 5 (by decide)]; exact hb))
      by_cases z : t' = t
      · subst z; rw [up_i]; exact ⟨g3, g4⟩
      · rw [up_o z]
        refine ⟨(hD t' (by omega)).1, fun v hv => ?_⟩
        rw [g2 _ (by omega)]
        exact (hD t' (by omega)).2 v hv
  refine SW.aload_n (q := 1) (i := 0) dX1_build_0 rfl rfl rfl ?_
  refine SW.iload (q := 3) (i := 5) dX1_build_1 rfl rfl ?_
  refine SW.putI (q := 6) (i := 5) pX1_29 rfl rfl dX1_build_3 rfl ?_
  refine SW.iconst (q := 7) (v := 0) dX1_build_6 (by decide) rfl ?_
  refine SW.istore (q := 9) (i := 6) dX1_build_7 (by decide) rfl ?_
  exact costs m 0 (by omega) (fun _ _ => none) _ (fun t' h => absurd h (Nat.not_lt_zero _)) (fr_up fr_rf (by decide)) sw_i1
end BUILD
