/-! STAGES of the class -/
def ck_ (n a b c sea g br wn : Nat) (τ : sw_Sg) : Prop :=
  (4 ≤ n ∧ n ≤ 24 ∧ τ 1 1 = nI n ∧ τ 1 2 = nI (n * n)) ∧ (τ 1 3 = nI a ∧ a ≤ 100000 ∧ τ 1 4 = nI b ∧ b ≤ 100000) ∧ (τ 1 5 = nI c ∧ gr_chs τ 34 35 c) ∧ (τ 33 0 = nI sea ∧ sea ≤ 255 ∧ τ 33 2 = nI g ∧ g ≤ 12 ∧ 1 ≤ g ∧ τ 33 3 = nI br ∧ br ≤ 100) ∧ τ 0 7 = nI wn ∧ wn ≤ 6
def cs_1 (n a b : Nat) (τ : sw_Sg) : Prop := ∀ p, p < n * n → τ 37 p = nI (p % n) ∧ τ 38 p = nI (p / n) ∧ τ 39 p = nI (gr_g (τ 1 0) (a + p % n) (b + p / n))
def cs_2 (n a b c sea : Nat) (τ : sw_Sg) : Prop := ∃ h : Nat → Nat, (∀ p, p < n * n → gr_ht (τ 1 0) (τ 34) (τ 35) (τ 36) c a b n p = nI (h p) ∧ h p ≤ 400 ∧ τ 40 p = nI (h p)) ∧
  (∃ T lv od D O, ww_F n h sea (τ 33 1) T lv od D 41 42 43 45 48 τ ∧ wo_ok n (n * n) T D O ∧ ∀ p, p < n * n → τ 44 p = nI (O p)) ∧ lg_F n (τ 48) (τ 41) τ
def ct_L (n g wn iH iK iF : Nat) (τ : sw_Sg) : List Nat := tw_run n g (tw_worth n (τ iH) (τ iK) (τ iF)) wn []
def ct_p (L : List Nat) (t : Nat) : Nat := (L[t]?).getD 0
def cs_3 (n g wn : Nat) (τ : sw_Sg) : Prop := (∀ p, p < n * n → τ 52 p = tw_worth n (τ 40) (τ 48) (τ 43) p) ∧ τ 4 2 = nI (ct_L n g wn 40 48 43 τ).length ∧ tw_row 53 (ct_L n g wn 40 48 43 τ) τ
def cs_4 (n g wn br : Nat) (τ : sw_Sg) : Prop := ∃ h D T, (∀ p, p < n * n → τ 40 p = nI (h p) ∧ h p ≤ 400) ∧ nk_F n h (τ 48) br (ct_L n g wn 40 48 43 τ).length (ct_p (ct_L n g wn 40 48 43 τ)) D T τ
section MAKE
variable {X : sw_X} {σ τ u : sw_Sg} {x y v w st : Int32} {n a b c sea g br wn k s M : Nat} {l : List Nat}
theorem cs_1.fr (z : cs_1 n a b τ) (hf : fr_ l τ u) (h1 : 1 ∉ l) (h2 : 37 ∉ l) (h3 : 38 ∉ l) (h4 : 39 ∉ l) : cs_1 n a b u := by
  unfold cs_1
  rw [hf 1 h1, hf 37 h2, hf 38 h3, hf 39 h4]; exact z
theorem cs_2.fr (z : cs_2 n a b c sea τ) (hf : fr_ l τ u) (h : ∀ i ∈ [1, 3, 33, 34, 35, 36, 40, 41, 42, 43, 44, 45, 48, 49, 50], i ∉ l) : cs_2 n a b c sea u := by
  unfold cs_2 ww_F lg_F
  rw [hf 1 (h 1 (by decide)), hf 3 (h 3 (by decide)), hf 33 (h 33 (by decide)), hf 34 (h 34 (by decide)), hf 35 (h 35 (by decide)), hf 36 (h 36 (by decide)), hf 40 (h 40 (by decide)), hf 41 (h 41 (by decide)), hf 42 (h 42 (by decide)), hf 43 (h 43 (by decide)), hf 44 (h 44 (by decide)), hf 45 (h 45 (by decide)), hf 48 (h 48 (by decide)), hf 49 (h 49 (by decide)), hf 50 (h 50 (by decide))]
  exact z
theorem cs_3.fr (z : cs_3 n g wn τ) (hf : fr_ l τ u) (h : ∀ i ∈ [4, 40, 43, 48, 52, 53], i ∉ l) : cs_3 n g wn u := by
  unfold cs_3 ct_L tw_row
  rw [hf 4 (h 4 (by decide)), hf 40 (h 40 (by decide)), hf 43 (h 43 (by decide)), hf 48 (h 48 (by decide)), hf 52 (h 52 (by decide)), hf 53 (h 53 (by decide))]
  exact z
theorem cs_4.fr (z : cs_4 n g wn br τ) (hf : fr_ l τ u) (h : ∀ i ∈ [5, 40, 43, 48, 54, 55, 56, 57], i ∉ l) : cs_4 n g wn br u := by
  unfold cs_4 ct_L nk_F nc_T nt_lab
  rw [hf 5 (h 5 (by decide)), hf 40 (h 40 (by decide)), hf 43 (h 43 (by decide)), hf 48 (h 48 (by decide)), hf 54 (h 54 (by decide)), hf 55 (h 55 (by decide)), hf 56 (h 56 (by decide)), hf 57 (h 57 (by decide))]
  exact z
theorem ck_.fr (z : ck_ n a b c sea g br wn τ) (hf : fr_ l τ u) (h0 : u 0 7 = τ 0 7) (h : ∀ i ∈ [1, 33, 34, 35], i ∉ l) : ck_ n a b c sea g br wn u := by
  unfold ck_ gr_chs
  rw [h0, hf 1 (h 1 (by decide)), hf 33 (h 33 (by decide)), hf 34 (h 34 (by decide)), hf 35 (h 35 (by decide))]
  exact z
/-- the class's numbers, and its stages up to k -/
def cI_ (n a b c sea g br wn k : Nat) (τ : sw_Sg) : Prop :=
  ck_ n a b c sea g br wn τ ∧ τ 0 8 = nI k ∧ k ≤ 4 ∧ (1 ≤ k → cs_1 n a b τ) ∧ (2 ≤ k → cs_2 n a b c sea τ) ∧ (3 ≤ k → cs_3 n g wn τ) ∧ (4 ≤ k → cs_4 n g wn br τ)
theorem ct_ok {W : Nat → Int32} : tw_ok n g W (tw_run n g W wn []) := tw_run_ok wn [] ⟨fun i q h => (by cases i <;> cases h), fun i j p q _ h => (by cases i <;> cases h)⟩
theorem ct_len {W : Nat → Int32} : (tw_run n g W wn []).length ≤ wn := by
  have := tw_run_len (n := n) (g := g) (W := W) wn []
  simpa using this
theorem ct_p_e {L : List Nat} {t : Nat} (h : t < L.length) : L[t]? = some (ct_p L t) := by
  obtain ⟨q, hq⟩ := getD_some h
  unfold ct_p
  rw [hq]; rfl
theorem C_X7_makeUpTo (hI : cI_ n a b c sea g br wn k σ) (hx : x = nI s) (s4 : s ≤ 4) (hM : (M = k ∧ s ≤ k) ∨ (M = s ∧ k ≤ s)) :
    sw_Mv X 5 mX7_makeUpTo [.ref (sw_ad X 0), .int x] σ (fun u => fr_ [0, 2, 3, 4, 5, 6, 37, 38, 39, 40, 41, 42, 43, 44, 45, 46, 47, 48, 49, 50, 51, 52, 53, 54, 55, 56, 57, 58] σ u ∧ cI_ n a b c sea g br wn M u) := by
  subst hx
  obtain ⟨hK, hk, k4, i1, i2, i3, i4⟩ := hI
  refine sw_ME.ofF (by decide +kernel) rfl (Nat.le_of_ble_eq_true rfl) rfl ?_
  have fl : ∀ {l : List Nat} {τ u : sw_Sg}, fr_ [2, 3, 4, 5, 6, 37, 38, 39, 40, 41, 42, 43, 44, 45, 46, 47, 48, 49, 50, 51, 52, 53, 54, 55, 56, 57, 58] σ τ → fr_ l τ u → (∀ i ∈ l, i ∈ [2, 3, 4, 5, 6, 37, 38, 39, 40, 41, 42, 43, 44, 45, 46, 47, 48, 49, 50, 51, 52, 53, 54, 55, 56, 57, 58]) → fr_ [2, 3, 4, 5, 6, 37, 38, 39, 40, 41, 42, 43, 44, 45, 46, 47, 48, 49, 50, 51, 52, 53, 54, 55, 56, 57, 58] σ u := fun h1 h2 h3 => fr_tr h1 h2 h3
  have J170 : ∀ τ, fr_ [2, 3, 4, 5, 6, 37, 38, 39, 40, 41, 42, 43, 44, 45, 46, 47, 48, 49, 50, 51, 52, 53, 54, 55, 56, 57, 58] σ τ → (1 ≤ M → cs_1 n a b τ) → (2 ≤ M → cs_2 n a b c sea τ) → (3 ≤ M → cs_3 n g wn τ) → (4 ≤ M → cs_4 n g wn br τ) →
      SW X 5 mX7_makeUpTo sw_E0 (sw_Rv (fun u => fr_ [0, 2, 3, 4, 5, 6, 37, 38, 39, 40, 41, 42, 43, 44, 45, 46, 47, 48, 49, 50, 51, 52, 53, 54, 55, 56, 57, 58] σ u ∧ cI_ n a b c sea g br wn M u)) 170 [.ref (sw_ad X 0), .int (nI s)] [] τ := by
    intro τ hf h1 h2 h3 h4
    have e08 : sw_max (τ 0 8) (nI s) = nI M := by
      rw [hf 0 (by decide), hk]
      unfold sw_max
      rcases hM with ⟨rfl, z⟩ | ⟨rfl, z⟩
      · rw [if_neg (Int32.not_lt.mpr (nI_le z (by omega)))]
      · rcases Nat.lt_or_ge k M with y | y
        · rw [if_pos (Int32.not_le.mp (nI_ge y (by omega)))]
        · obtain rfl : k = M := by omega
          rw [if_neg (Int32.not_lt.mpr (Int32.le_refl _))]
    have f0 : fr_ [0] τ (sw_up τ 0 8 (nI M)) := fr_up fr_rf (by decide)
    refine SW.aload_n (q := 171) (i := 0) dX7_makeUpTo_170 rfl rfl rfl ?_
    refine SW.aload_n (q := 172) (i := 0) dX7_makeUpTo_171 rfl rfl rfl ?_
    refine SW.getI (q := 175) (i := 0) fX7_64 rfl rfl dX7_makeUpTo_172 rfl ?_
    refine SW.iload_n (q := 176) (i := 1) dX7_makeUpTo_175 rfl rfl rfl ?_
    refine SW.sF (q := 179) (C_max) vX7_229 (by decide) rfl rfl (Nat.le_of_ble_eq_true rfl) dX7_makeUpTo_176 rfl ?_
    rw [e08]
    refine SW.putI (q := 182) (i := 0) pX7_64 rfl rfl dX7_makeUpTo_179 rfl ?_
    refine SW.vretR rfl dX7_makeUpTo_182 ?_
    refine ⟨fr_tr (fr_sub hf (by decide)) f0 (by decide), (hK.fr hf (by rw [hf 0 (by decide)]) (by decide)).fr f0 (sw_o1 (by decide)) (by decide), sw_i1, by omega, fun z => (h1 z).fr f0 (by decide) (by decide) (by decide) (by decide), fun z => (h2 z).fr f0 (by decide), fun z => (h3 z).fr f0 (by decide), fun z => (h4 z).fr f0 (by decide)⟩
  have J126 : ∀ τ, fr_ [2, 3, 4, 5, 6, 37, 38, 39, 40, 41, 42, 43, 44, 45, 46, 47, 48, 49, 50, 51, 52, 53, 54, 55, 56, 57, 58] σ τ → (1 ≤ M → cs_1 n a b τ) → (2 ≤ M → cs_2 n a b c sea τ) → (3 ≤ M → cs_3 n g wn τ) → (4 ≤ k → cs_4 n g wn br τ) →
      SW X 5 mX7_makeUpTo sw_E0 (sw_Rv (fun u => fr_ [0, 2, 3, 4, 5, 6, 37, 38, 39, 40, 41, 42, 43, 44, 45, 46, 47, 48, 49, 50, 51, 52, 53, 54, 55, 56, 57, 58] σ u ∧ cI_ n a b c sea g br wn M u)) 126 [.ref (sw_ad X 0), .int (nI s)] [] τ := by
    intro τ hf h1 h2 h3 h4
    have e08 : τ 0 8 = nI k := by rw [hf 0 (by decide)]; exact hk
    have hK2 := hK.fr hf (by rw [hf 0 (by decide)]) (by decide)
    by_cases z1 : 4 ≤ k
    · refine SW.aload_n (q := 127) (i := 0) dX7_makeUpTo_126 rfl rfl rfl ?_
      refine SW.getI (q := 130) (i := 0) fX7_64 rfl rfl dX7_makeUpTo_127 rfl ?_
      refine SW.iconst (q := 131) (v := 4) dX7_makeUpTo_130 (by decide) rfl ?_
      refine SW.icmp_ge (q := 134) (tgt := 170) dX7_makeUpTo_131 (by decide) rfl (fun _ => ?_) (fun c131 => absurd ((by rw [e08]; exact nI_le (a := 4) z1 (by omega))) c131)
      exact J170 τ hf h1 h2 h3 (fun _ => h4 z1)
    · by_cases z2 : s < 4
      · refine SW.aload_n (q := 127) (i := 0) dX7_makeUpTo_126 rfl rfl rfl ?_
        refine SW.getI (q := 130) (i := 0) fX7_64 rfl rfl dX7_makeUpTo_127 rfl ?_
        refine SW.iconst (q := 131) (v := 4) dX7_makeUpTo_130 (by decide) rfl ?_
        refine SW.icmp_ge (q := 134) (tgt := 170) dX7_makeUpTo_131 (by decide) rfl (fun c131 => absurd c131 ((by rw [e08]; exact nI_ge (b := 4) (by omega) (by omega)))) (fun _ => ?_)
        refine SW.iload_n (q := 135) (i := 1) dX7_makeUpTo_134 rfl rfl rfl ?_
        refine SW.iconst (q := 136) (v := 4) dX7_makeUpTo_135 (by decide) rfl ?_
        refine SW.icmp_lt (q := 139) (tgt := 170) dX7_makeUpTo_136 (by decide) rfl (fun _ => ?_) (fun c136 => absurd ((Int32.not_le.mp (nI_ge (b := 4) z2 (by omega)))) c136)
        exact J170 τ hf h1 h2 h3 (fun _ => by omega)
      · have y1 := h1 (by omega)
        obtain ⟨hh, y2, ⟨T, lv, od, D, O, y3, -, -⟩, -⟩ := h2 (by omega)
        obtain ⟨y4, y5, y6⟩ := h3 (by omega)
        obtain ⟨⟨n4, n24, q1, q2⟩, -, -, ⟨-, -, -, -, -, q3, q4⟩, -, w6⟩ := hK2
        have hT : gr_T τ n := ⟨n4, n24, q1, q2, fun p hp => ⟨(y1 p hp).1, (y1 p hp).2.1⟩⟩
        have hG : ww_G n hh τ := ⟨hT, fun p hp => ⟨(y2 p hp).2.2, (y2 p hp).2.1⟩⟩
        have hP : nc_P n (ct_L n g wn 40 48 43 τ).length (ct_p (ct_L n g wn 40 48 43 τ)) τ := by
          refine ⟨y5, Nat.le_trans ct_len w6, fun t ht => ?_⟩
          have e := ct_p_e ht
          exact ⟨y6 t _ e, (ct_ok.1 t _ e).1⟩
        refine SW.aload_n (q := 127) (i := 0) dX7_makeUpTo_126 rfl rfl rfl ?_
        refine SW.getI (q := 130) (i := 0) fX7_64 rfl rfl dX7_makeUpTo_127 rfl ?_
        refine SW.iconst (q := 131) (v := 4) dX7_makeUpTo_130 (by decide) rfl ?_
        refine SW.icmp_ge (q := 134) (tgt := 170) dX7_makeUpTo_131 (by decide) rfl (fun c131 => absurd c131 ((by rw [e08]; exact nI_ge (b := 4) (by omega) (by omega)))) (fun _ => ?_)
        refine SW.iload_n (q := 135) (i := 1) dX7_makeUpTo_134 rfl rfl rfl ?_
        refine SW.iconst (q := 136) (v := 4) dX7_makeUpTo_135 (by decide) rfl ?_
        refine SW.icmp_lt (q := 139) (tgt := 170) dX7_makeUpTo_136 (by decide) rfl (fun c136 => absurd c136 ((Int32.not_lt.mpr (nI_le (a := 4) (by omega) (by omega))))) (fun _ => ?_)
        refine SW.aload_n (q := 140) (i := 0) dX7_makeUpTo_139 rfl rfl rfl ?_
        refine SW.getR (q := 143) (i := 0) (j := 5) fX7_40 rfl rfl dX7_makeUpTo_140 rfl ?_
        refine SW.aload_n (q := 144) (i := 0) dX7_makeUpTo_143 rfl rfl rfl ?_
        refine SW.getR (q := 147) (i := 0) (j := 1) fX7_12 rfl rfl dX7_makeUpTo_144 rfl ?_
        refine SW.aload_n (q := 148) (i := 0) dX7_makeUpTo_147 rfl rfl rfl ?_
        refine SW.getR (q := 151) (i := 0) (j := 2) fX7_19 rfl rfl dX7_makeUpTo_148 rfl ?_
        refine SW.aload_n (q := 152) (i := 0) dX7_makeUpTo_151 rfl rfl rfl ?_
        refine SW.getR (q := 155) (i := 0) (j := 4) fX7_33 rfl rfl dX7_makeUpTo_152 rfl ?_
        refine SW.aload_n (q := 156) (i := 0) dX7_makeUpTo_155 rfl rfl rfl ?_
        refine SW.getR (q := 159) (i := 0) (j := 6) fX7_47 rfl rfl dX7_makeUpTo_156 rfl ?_
        refine SW.aload_n (q := 160) (i := 0) dX7_makeUpTo_159 rfl rfl rfl ?_
        refine SW.getR (q := 163) (i := 0) (j := 7) fX7_56 rfl rfl dX7_makeUpTo_160 rfl ?_
        refine SW.iconst (q := 164) (v := 3) dX7_makeUpTo_163 (by decide) rfl ?_
        refine SW.cF (q := 167) (C_X3_atn (i := 7) (j := 33) (n := 4) rfl rfl (k := 3) rfl (by decide)) vX7_119 (by decide) rfl rfl rfl rfl (Nat.le_of_ble_eq_true rfl) dX7_makeUpTo_164 rfl ?_
        refine SW.cV (q := 170) (C_X1_build (h := hh) (kd := τ 48) (br := br) hG rfl q4 hP q3) vX7_225 (by decide) rfl rfl rfl rfl (Nat.le_of_ble_eq_true rfl) dX7_makeUpTo_167 rfl (fun u167 r167 => ?_)
        obtain ⟨r1, DD, TT, r2⟩ := r167
        refine J170 u167 (fl hf r1 (by decide)) (fun z => (h1 z).fr r1 (by decide) (by decide) (by decide) (by decide)) (fun z => (h2 z).fr r1 (by decide)) (fun z => (h3 z).fr r1 (by decide)) (fun _ => ⟨hh, DD, TT, fun p hp => ?_, ?_⟩)
        · rw [r1 40 (by decide)]; exact (hG.2 p hp)
        · unfold ct_L; rw [r1 40 (by decide), r1 48 (by decide), r1 43 (by decide)]; exact r2
  have J86 : ∀ τ, fr_ [2, 3, 4, 5, 6, 37, 38, 39, 40, 41, 42, 43, 44, 45, 46, 47, 48, 49, 50, 51, 52, 53, 54, 55, 56, 57, 58] σ τ → (1 ≤ M → cs_1 n a b τ) → (2 ≤ M → cs_2 n a b c sea τ) → (3 ≤ k → cs_3 n g wn τ) → (4 ≤ k → cs_4 n g wn br τ) →
      SW X 5 mX7_makeUpTo sw_E0 (sw_Rv (fun u => fr_ [0, 2, 3, 4, 5, 6, 37, 38, 39, 40, 41, 42, 43, 44, 45, 46, 47, 48, 49, 50, 51, 52, 53, 54, 55, 56, 57, 58] σ u ∧ cI_ n a b c sea g br wn M u)) 86 [.ref (sw_ad X 0), .int (nI s)] [] τ := by
    intro τ hf h1 h2 h3 h4
    have e08 : τ 0 8 = nI k := by rw [hf 0 (by decide)]; exact hk
    have hK2 := hK.fr hf (by rw [hf 0 (by decide)]) (by decide)
    by_cases z1 : 3 ≤ k
    · refine SW.aload_n (q := 87) (i := 0) dX7_makeUpTo_86 rfl rfl rfl ?_
      refine SW.getI (q := 90) (i := 0) fX7_64 rfl rfl dX7_makeUpTo_87 rfl ?_
      refine SW.iconst (q := 91) (v := 3) dX7_makeUpTo_90 (by decide) rfl ?_
      refine SW.icmp_ge (q := 94) (tgt := 126) dX7_makeUpTo_91 (by decide) rfl (fun _ => ?_) (fun c91 => absurd ((by rw [e08]; exact nI_le (a := 3) z1 (by omega))) c91)
      exact J126 τ hf h1 h2 (fun _ => h3 z1) h4
    · by_cases z2 : s < 3
      · refine SW.aload_n (q := 87) (i := 0) dX7_makeUpTo_86 rfl rfl rfl ?_
        refine SW.getI (q := 90) (i := 0) fX7_64 rfl rfl dX7_makeUpTo_87 rfl ?_
        refine SW.iconst (q := 91) (v := 3) dX7_makeUpTo_90 (by decide) rfl ?_
        refine SW.icmp_ge (q := 94) (tgt := 126) dX7_makeUpTo_91 (by decide) rfl (fun c91 => absurd c91 ((by rw [e08]; exact nI_ge (b := 3) (by omega) (by omega)))) (fun _ => ?_)
        refine SW.iload_n (q := 95) (i := 1) dX7_makeUpTo_94 rfl rfl rfl ?_
        refine SW.iconst (q := 96) (v := 3) dX7_makeUpTo_95 (by decide) rfl ?_
        refine SW.icmp_lt (q := 99) (tgt := 126) dX7_makeUpTo_96 (by decide) rfl (fun _ => ?_) (fun c96 => absurd ((Int32.not_le.mp (nI_ge (b := 3) z2 (by omega)))) c96)
        exact J126 τ hf h1 h2 (fun _ => by omega) h4
      · have y1 := h1 (by omega)
        obtain ⟨⟨n4, n24, q1, q2⟩, -, -, ⟨-, -, q3, q4, -, -, -⟩, q5, w6⟩ := hK2
        have hT : gr_T τ n := ⟨n4, n24, q1, q2, fun p hp => ⟨(y1 p hp).1, (y1 p hp).2.1⟩⟩
        refine SW.aload_n (q := 87) (i := 0) dX7_makeUpTo_86 rfl rfl rfl ?_
        refine SW.getI (q := 90) (i := 0) fX7_64 rfl rfl dX7_makeUpTo_87 rfl ?_
        refine SW.iconst (q := 91) (v := 3) dX7_makeUpTo_90 (by decide) rfl ?_
        refine SW.icmp_ge (q := 94) (tgt := 126) dX7_makeUpTo_91 (by decide) rfl (fun c91 => absurd c91 ((by rw [e08]; exact nI_ge (b := 3) (by omega) (by omega)))) (fun _ => ?_)
        refine SW.iload_n (q := 95) (i := 1) dX7_makeUpTo_94 rfl rfl rfl ?_
        refine SW.iconst (q := 96) (v := 3) dX7_makeUpTo_95 (by decide) rfl ?_
        refine SW.icmp_lt (q := 99) (tgt := 126) dX7_makeUpTo_96 (by decide) rfl (fun c96 => absurd c96 ((Int32.not_lt.mpr (nI_le (a := 3) (by omega) (by omega))))) (fun _ => ?_)
        refine SW.aload_n (q := 100) (i := 0) dX7_makeUpTo_99 rfl rfl rfl ?_
        refine SW.getR (q := 103) (i := 0) (j := 4) fX7_33 rfl rfl dX7_makeUpTo_100 rfl ?_
        refine SW.aload_n (q := 104) (i := 0) dX7_makeUpTo_103 rfl rfl rfl ?_
        refine SW.getR (q := 107) (i := 0) (j := 1) fX7_12 rfl rfl dX7_makeUpTo_104 rfl ?_
        refine SW.aload_n (q := 108) (i := 0) dX7_makeUpTo_107 rfl rfl rfl ?_
        refine SW.getR (q := 111) (i := 0) (j := 2) fX7_19 rfl rfl dX7_makeUpTo_108 rfl ?_
        refine SW.aload_n (q := 112) (i := 0) dX7_makeUpTo_111 rfl rfl rfl ?_
        refine SW.getI (q := 115) (i := 0) fX7_60 rfl rfl dX7_makeUpTo_112 rfl ?_
        refine SW.aload_n (q := 116) (i := 0) dX7_makeUpTo_115 rfl rfl rfl ?_
        refine SW.getR (q := 119) (i := 0) (j := 7) fX7_56 rfl rfl dX7_makeUpTo_116 rfl ?_
        refine SW.iconst (q := 120) (v := 2) dX7_makeUpTo_119 (by decide) rfl ?_
        refine SW.cF (q := 123) (C_X3_atn (i := 7) (j := 33) (n := 4) rfl rfl (k := 2) rfl (by decide)) vX7_119 (by decide) rfl rfl rfl rfl (Nat.le_of_ble_eq_true rfl) dX7_makeUpTo_120 rfl ?_
        rw [q3, q5]
        refine SW.cV (q := 126) (C_X4_found (wn := wn) (g := g) hT w6 q4) vX7_221 (by decide) rfl rfl rfl rfl (Nat.le_of_ble_eq_true rfl) dX7_makeUpTo_123 rfl (fun u123 r123 => ?_)
        obtain ⟨r1, r2, r3, r4⟩ := r123
        refine J126 u123 (fl hf r1 (by decide)) (fun z => (h1 z).fr r1 (by decide) (by decide) (by decide) (by decide)) (fun z => (h2 z).fr r1 (by decide)) (fun _ => ⟨?_, ?_, ?_⟩) (fun z => by omega)
        · rw [r1 40 (by decide), r1 48 (by decide), r1 43 (by decide)]; exact r2
        · unfold ct_L; rw [r1 40 (by decide), r1 48 (by decide), r1 43 (by decide)]; exact r3
        · unfold ct_L; rw [r1 40 (by decide), r1 48 (by decide), r1 43 (by decide)]; exact r4
  have J20 : ∀ τ, fr_ [2, 3, 4, 5, 6, 37, 38, 39, 40, 41, 42, 43, 44, 45, 46, 47, 48, 49, 50, 51, 52, 53, 54, 55, 56, 57, 58] σ τ → (1 ≤ M → cs_1 n a b τ) → (2 ≤ k → cs_2 n a b c sea τ) → (3 ≤ k → cs_3 n g wn τ) → (4 ≤ k → cs_4 n g wn br τ) →
      SW X 5 mX7_makeUpTo sw_E0 (sw_Rv (fun u => fr_ [0, 2, 3, 4, 5, 6, 37, 38, 39, 40, 41, 42, 43, 44, 45, 46, 47, 48, 49, 50, 51, 52, 53, 54, 55, 56, 57, 58] σ u ∧ cI_ n a b c sea g br wn M u)) 20 [.ref (sw_ad X 0), .int (nI s)] [] τ := by
    intro τ hf h1 h2 h3 h4
    have e08 : τ 0 8 = nI k := by rw [hf 0 (by decide)]; exact hk
    have hK2 := hK.fr hf (by rw [hf 0 (by decide)]) (by decide)
    by_cases z1 : 2 ≤ k
    · refine SW.aload_n (q := 21) (i := 0) dX7_makeUpTo_20 rfl rfl rfl ?_
      refine SW.getI (q := 24) (i := 0) fX7_64 rfl rfl dX7_makeUpTo_21 rfl ?_
      refine SW.iconst (q := 25) (v := 2) dX7_makeUpTo_24 (by decide) rfl ?_
      refine SW.icmp_ge (q := 28) (tgt := 86) dX7_makeUpTo_25 (by decide) rfl (fun _ => ?_) (fun c25 => absurd ((by rw [e08]; exact nI_le (a := 2) z1 (by omega))) c25)
      exact J86 τ hf h1 (fun _ => h2 z1) h3 h4
    · by_cases z2 : s < 2
      · refine SW.aload_n (q := 21) (i := 0) dX7_makeUpTo_20 rfl rfl rfl ?_
        refine SW.getI (q := 24) (i := 0) fX7_64 rfl rfl dX7_makeUpTo_21 rfl ?_
        refine SW.iconst (q := 25) (v := 2) dX7_makeUpTo_24 (by decide) rfl ?_
        refine SW.icmp_ge (q := 28) (tgt := 86) dX7_makeUpTo_25 (by decide) rfl (fun c25 => absurd c25 ((by rw [e08]; exact nI_ge (b := 2) (by omega) (by omega)))) (fun _ => ?_)
        refine SW.iload_n (q := 29) (i := 1) dX7_makeUpTo_28 rfl rfl rfl ?_
        refine SW.iconst (q := 30) (v := 2) dX7_makeUpTo_29 (by decide) rfl ?_
        refine SW.icmp_lt (q := 33) (tgt := 86) dX7_makeUpTo_30 (by decide) rfl (fun _ => ?_) (fun c30 => absurd ((Int32.not_le.mp (nI_ge (b := 2) z2 (by omega)))) c30)
        exact J86 τ hf h1 (fun _ => by omega) h3 h4
      · have y1 := h1 (by omega)
        obtain ⟨⟨n4, n24, q1, q2⟩, ⟨q3, q4, q5, q6⟩, ⟨q7, q8⟩, ⟨q9, q10, -, -, -, -, -⟩, -, -⟩ := hK2
        have hT : gr_T τ n := ⟨n4, n24, q1, q2, fun p hp => ⟨(y1 p hp).1, (y1 p hp).2.1⟩⟩
        refine SW.aload_n (q := 21) (i := 0) dX7_makeUpTo_20 rfl rfl rfl ?_
        refine SW.getI (q := 24) (i := 0) fX7_64 rfl rfl dX7_makeUpTo_21 rfl ?_
        refine SW.iconst (q := 25) (v := 2) dX7_makeUpTo_24 (by decide) rfl ?_
        refine SW.icmp_ge (q := 28) (tgt := 86) dX7_makeUpTo_25 (by decide) rfl (fun c25 => absurd c25 ((by rw [e08]; exact nI_ge (b := 2) (by omega) (by omega)))) (fun _ => ?_)
        refine SW.iload_n (q := 29) (i := 1) dX7_makeUpTo_28 rfl rfl rfl ?_
        refine SW.iconst (q := 30) (v := 2) dX7_makeUpTo_29 (by decide) rfl ?_
        refine SW.icmp_lt (q := 33) (tgt := 86) dX7_makeUpTo_30 (by decide) rfl (fun c30 => absurd c30 ((Int32.not_lt.mpr (nI_le (a := 2) (by omega) (by omega))))) (fun _ => ?_)
        refine SW.aload_n (q := 34) (i := 0) dX7_makeUpTo_33 rfl rfl rfl ?_
        refine SW.getR (q := 37) (i := 0) (j := 1) fX7_12 rfl rfl dX7_makeUpTo_34 rfl ?_
        refine SW.cV (q := 40) (C_X5_raiseHeights hT q3 q5 q4 q6 q7 q8) vX7_210 (by decide) rfl rfl rfl rfl (Nat.le_of_ble_eq_true rfl) dX7_makeUpTo_37 rfl (fun u37 r37 => ?_)
        obtain ⟨r1, r2⟩ := r37
        obtain ⟨hh, e2⟩ : ∃ hh : Nat → Nat, ∀ p, p < n * n → gr_ht (τ 1 0) (τ 34) (τ 35) (τ 36) c a b n p = nI (hh p) ∧ hh p ≤ 400 := by
          refine ⟨fun p => Classical.choose (gr_cl_N (gr_hs (τ 34) (τ 35) (τ 36) (nI (gr_g (τ 1 0) (a + p % n) (b + p / n))) (nI (a + p % n)) (nI (b + p / n)) c)), fun p _ => ?_⟩
          have := Classical.choose_spec (gr_cl_N (gr_hs (τ 34) (τ 35) (τ 36) (nI (gr_g (τ 1 0) (a + p % n) (b + p / n))) (nI (a + p % n)) (nI (b + p / n)) c))
          exact ⟨this.2, this.1⟩
        have e3 : ∀ p, p < n * n → u37 40 p = nI (hh p) := fun p hp => by rw [r2 p hp, (y1 p hp).2.2]; exact (e2 p hp).1
        have hG : ww_G n hh u37 := ⟨hT.fr r1 (by decide) (by decide) (by decide), fun p hp => ⟨e3 p hp, (e2 p hp).2⟩⟩
        refine SW.aload_n (q := 41) (i := 0) dX7_makeUpTo_40 rfl rfl rfl ?_
        refine SW.getR (q := 44) (i := 0) (j := 2) fX7_19 rfl rfl dX7_makeUpTo_41 rfl ?_
        refine SW.aload_n (q := 45) (i := 0) dX7_makeUpTo_44 rfl rfl rfl ?_
        refine SW.getR (q := 48) (i := 0) (j := 1) fX7_12 rfl rfl dX7_makeUpTo_45 rfl ?_
        refine SW.aload_n (q := 49) (i := 0) dX7_makeUpTo_48 rfl rfl rfl ?_
        refine SW.getR (q := 52) (i := 0) (j := 6) fX7_47 rfl rfl dX7_makeUpTo_49 rfl ?_
        refine SW.aload_n (q := 53) (i := 0) dX7_makeUpTo_52 rfl rfl rfl ?_
        refine SW.getR (q := 56) (i := 0) (j := 7) fX7_56 rfl rfl dX7_makeUpTo_53 rfl ?_
        refine SW.iconst (q := 57) (v := 0) dX7_makeUpTo_56 (by decide) rfl ?_
        refine SW.cF (q := 60) (C_X3_atn (i := 7) (j := 33) (n := 4) rfl rfl (k := 0) rfl (by decide)) vX7_119 (by decide) rfl rfl rfl rfl (Nat.le_of_ble_eq_true rfl) dX7_makeUpTo_57 rfl ?_
        refine SW.aload_n (q := 61) (i := 0) dX7_makeUpTo_60 rfl rfl rfl ?_
        refine SW.getR (q := 64) (i := 0) (j := 7) fX7_56 rfl rfl dX7_makeUpTo_61 rfl ?_
        refine SW.iconst (q := 65) (v := 1) dX7_makeUpTo_64 (by decide) rfl ?_
        refine SW.cF (q := 68) (C_X3_atn (i := 7) (j := 33) (n := 4) rfl rfl (k := 1) rfl (by decide)) vX7_119 (by decide) rfl rfl rfl rfl (Nat.le_of_ble_eq_true rfl) dX7_makeUpTo_65 rfl ?_
        rw [show u37 33 0 = nI sea from by rw [r1 33 (by decide)]; exact q9]
        refine SW.cV (q := 71) (C_X6_run (h := hh) (sea := sea) hG q10) vX7_213 (by decide) rfl rfl rfl rfl (Nat.le_of_ble_eq_true rfl) dX7_makeUpTo_68 rfl (fun u68 r68 => ?_)
        obtain ⟨t1, T, lv, od, D, O, t2, t3, t4⟩ := r68
        refine SW.aload_n (q := 72) (i := 0) dX7_makeUpTo_71 rfl rfl rfl ?_
        refine SW.getR (q := 75) (i := 0) (j := 3) fX7_26 rfl rfl dX7_makeUpTo_72 rfl ?_
        refine SW.aload_n (q := 76) (i := 0) dX7_makeUpTo_75 rfl rfl rfl ?_
        refine SW.getR (q := 79) (i := 0) (j := 1) fX7_12 rfl rfl dX7_makeUpTo_76 rfl ?_
        refine SW.aload_n (q := 80) (i := 0) dX7_makeUpTo_79 rfl rfl rfl ?_
        refine SW.getR (q := 83) (i := 0) (j := 2) fX7_19 rfl rfl dX7_makeUpTo_80 rfl ?_
        refine SW.cV (q := 86) (C_X2_gather (n := n) (kd := u68 48) (lv := u68 41) (hG.1.fr t1 (by decide) (by decide) (by decide)) rfl rfl) vX7_217 (by decide) rfl rfl rfl rfl (Nat.le_of_ble_eq_true rfl) dX7_makeUpTo_83 rfl (fun u83 r83 => ?_)
        obtain ⟨v1, v2⟩ := r83
        have f1 : fr_ [2, 3, 6, 40, 41, 42, 43, 44, 45, 46, 47, 48, 49, 50, 51, 58] τ u83 := fr_tr (fr_tr (fr_sub r1 (by decide)) t1 (by decide)) v1 (by decide)
        refine J86 u83 (fl hf f1 (by decide)) (fun z => (h1 z).fr f1 (by decide) (by decide) (by decide) (by decide)) (fun _ => ⟨hh, fun p hp => ⟨?_, (e2 p hp).2, ?_⟩, ⟨T, lv, od, D, O, ?_, t3, fun p hp => ?_⟩, ?_⟩) (fun z => by omega) (fun z => by omega)
        · rw [f1 1 (by decide), f1 34 (by decide), f1 35 (by decide), f1 36 (by decide)]; exact (e2 p hp).1
        · rw [v1 40 (by decide), t1 40 (by decide)]; exact e3 p hp
        · unfold ww_F
          rw [v1 33 (by decide), t1 33 (by decide), v1 41 (by decide), v1 42 (by decide), v1 43 (by decide), v1 45 (by decide), v1 48 (by decide)]; exact t2
        · rw [v1 44 (by decide)]; exact t4 p hp
        · rw [v1 48 (by decide), v1 41 (by decide)]; exact v2
  by_cases z1 : 1 ≤ k
  · refine SW.aload_n (q := 1) (i := 0) dX7_makeUpTo_0 rfl rfl rfl ?_
    refine SW.getI (q := 4) (i := 0) fX7_64 rfl rfl dX7_makeUpTo_1 rfl ?_
    refine SW.iconst (q := 5) (v := 1) dX7_makeUpTo_4 (by decide) rfl ?_
    refine SW.icmp_ge (q := 8) (tgt := 20) dX7_makeUpTo_5 (by decide) rfl (fun _ => ?_) (fun c5 => absurd ((by rw [hk]; exact nI_le (a := 1) z1 (by omega))) c5)
    exact J20 σ fr_rf (fun _ => i1 z1) i2 i3 i4
  · by_cases z2 : s < 1
    · refine SW.aload_n (q := 1) (i := 0) dX7_makeUpTo_0 rfl rfl rfl ?_
      refine SW.getI (q := 4) (i := 0) fX7_64 rfl rfl dX7_makeUpTo_1 rfl ?_
      refine SW.iconst (q := 5) (v := 1) dX7_makeUpTo_4 (by decide) rfl ?_
      refine SW.icmp_ge (q := 8) (tgt := 20) dX7_makeUpTo_5 (by decide) rfl (fun c5 => absurd c5 ((by rw [hk]; exact nI_ge (b := 1) (by omega) (by omega)))) (fun _ => ?_)
      refine SW.iload_n (q := 9) (i := 1) dX7_makeUpTo_8 rfl rfl rfl ?_
      refine SW.iconst (q := 10) (v := 1) dX7_makeUpTo_9 (by decide) rfl ?_
      refine SW.icmp_lt (q := 13) (tgt := 20) dX7_makeUpTo_10 (by decide) rfl (fun _ => ?_) (fun c10 => absurd ((Int32.not_le.mp (nI_ge (b := 1) z2 (by omega)))) c10)
      exact J20 σ fr_rf (fun _ => by omega) i2 i3 i4
    · obtain ⟨⟨n4, n24, q1, q2⟩, ⟨q3, q4, q5, q6⟩, -⟩ := hK
      refine SW.aload_n (q := 1) (i := 0) dX7_makeUpTo_0 rfl rfl rfl ?_
      refine SW.getI (q := 4) (i := 0) fX7_64 rfl rfl dX7_makeUpTo_1 rfl ?_
      refine SW.iconst (q := 5) (v := 1) dX7_makeUpTo_4 (by decide) rfl ?_
      refine SW.icmp_ge (q := 8) (tgt := 20) dX7_makeUpTo_5 (by decide) rfl (fun c5 => absurd c5 ((by rw [hk]; exact nI_ge (b := 1) (by omega) (by omega)))) (fun _ => ?_)
      refine SW.iload_n (q := 9) (i := 1) dX7_makeUpTo_8 rfl rfl rfl ?_
      refine SW.iconst (q := 10) (v := 1) dX7_makeUpTo_9 (by decide) rfl ?_
      refine SW.icmp_lt (q := 13) (tgt := 20) dX7_makeUpTo_10 (by decide) rfl (fun c10 => absurd c10 ((Int32.not_lt.mpr (nI_le (a := 1) (by omega) (by omega))))) (fun _ => ?_)
      refine SW.aload_n (q := 14) (i := 0) dX7_makeUpTo_13 rfl rfl rfl ?_
      refine SW.getR (q := 17) (i := 0) (j := 1) fX7_12 rfl rfl dX7_makeUpTo_14 rfl ?_
      refine SW.cV (q := 20) (C_X5_growGround n4 n24 q1 q3 q5 q4 q6) vX7_207 (by decide) rfl rfl rfl rfl (Nat.le_of_ble_eq_true rfl) dX7_makeUpTo_17 rfl (fun u17 r17 => ?_)
      obtain ⟨r1, r2⟩ := r17
      refine J20 u17 (fl fr_rf r1 (by decide)) (fun _ p hp => ?_) (fun z => by omega) (fun z => by omega) (fun z => by omega)
      rw [r1 1 (by decide)]
      exact r2 p hp
end MAKE
