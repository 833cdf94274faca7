/-! THE NET, as mathematics: the cheapest join, and what joins lead to -/
def nj_c (D : Nat → Nat → Option Nat) (pl : Nat → Nat) (m : Nat) (M : Nat → Prop) (a b c : Nat) : Prop := a < m ∧ b < m ∧ M a ∧ ¬ M b ∧ D b (pl a) = some c
def nj_le (c a b c' a' b' : Nat) : Prop := c < c' ∨ c = c' ∧ (a < a' ∨ a = a' ∧ b ≤ b')
def nj_B (D : Nat → Nat → Option Nat) (pl : Nat → Nat) (m : Nat) (M : Nat → Prop) (Sc : Nat → Nat → Prop) : Option (Nat × Nat × Nat) → Prop
  | none => ∀ a b c, Sc a b → ¬ nj_c D pl m M a b c
  | some (a, b, c) => Sc a b ∧ nj_c D pl m M a b c ∧ ∀ a' b' c', Sc a' b' → nj_c D pl m M a' b' c' → nj_le c a b c' a' b'
def nj_f : Option (Nat × Nat × Nat) → Int32
  | none => -6
  | some (a, _, _) => nI a
def nj_s : Option (Nat × Nat × Nat) → Int32
  | none => -6
  | some (_, b, _) => nI b
def nj_l : Option (Nat × Nat × Nat) → Int32
  | none => 1000000000
  | some (_, _, c) => nI c
def nj_T : Type := Nat × (Nat → Nat) × (Nat → Nat) × Nat
def nj_T.k (t : nj_T) : Nat := Prod.fst t
def nj_T.f (t : nj_T) : Nat → Nat := Prod.fst (Prod.snd t)
def nj_T.g (t : nj_T) : Nat → Nat := Prod.fst (Prod.snd (Prod.snd t))
def nj_T.tot (t : nj_T) : Nat := Prod.snd (Prod.snd (Prod.snd t))
def nj_0 : nj_T := ((0 : Nat), (fun _ => 0 : Nat → Nat), (fun _ => 0 : Nat → Nat), (0 : Nat))
def nj_ap (t : nj_T) : Option (Nat × Nat × Nat) → nj_T
  | none => t
  | some (a, b, c) => (t.k + 1, va_up t.f t.k a, va_up t.g t.k b, t.tot + c)
def nj_M (t : nj_T) (a : Nat) : Prop := a = 0 ∨ ∃ i, i < t.k ∧ t.g i = a
def nj_R (D : Nat → Nat → Option Nat) (pl : Nat → Nat) (m : Nat) : Nat → nj_T → Prop
  | 0, t => t = nj_0
  | j + 1, t => ∃ t' r, nj_R D pl m j t' ∧ nj_B D pl m (nj_M t') (fun _ _ => True) r ∧ t = nj_ap t' r
section JMATH
variable {D : Nat → Nat → Option Nat} {pl : Nat → Nat} {m a b c n : Nat} {M : Nat → Prop} {Sc Sc' : Nat → Nat → Prop} {r r' : Option (Nat × Nat × Nat)} {t t' : nj_T}
theorem nj_one (h : nj_B D pl m M Sc r) (h' : nj_B D pl m M Sc r') : r = r' := by
  cases r with
  | none =>
    cases r' with
    | none => rfl
    | some x => obtain ⟨a, b, c⟩ := x; exact absurd h'.2.1 (h a b c h'.1)
  | some x =>
    obtain ⟨a, b, c⟩ := x
    cases r' with
    | none => exact absurd h.2.1 (h' a b c h.1)
    | some y =>
      obtain ⟨a', b', c'⟩ := y
      have h1 := h.2.2 a' b' c' h'.1 h'.2.1
      have h2 := h'.2.2 a b c h.1 h.2.1
      unfold nj_le at h1 h2
      have e1 : a = a' := by omega
      have e2 : b = b' := by omega
      have e3 : c = c' := by omega
      rw [e1, e2, e3]
theorem nj_ext (h : nj_B D pl m M Sc r) (e : ∀ a b, a < m → b < m → (Sc a b ↔ Sc' a b)) : nj_B D pl m M Sc' r := by
  cases r with
  | none => exact fun a b c hs hc => h a b c ((e a b hc.1 hc.2.1).mpr hs) hc
  | some x =>
    obtain ⟨a, b, c⟩ := x
    exact ⟨(e a b h.2.1.1 h.2.1.2.1).mp h.1, h.2.1, fun a' b' c' hs hc => h.2.2 a' b' c' ((e a' b' hc.1 hc.2.1).mpr hs) hc⟩
theorem nj_no (h : nj_B D pl m M Sc r) (e : ∀ x y, Sc' x y ↔ Sc x y ∨ x = a ∧ y = b) (hn : ∀ c, ¬ nj_c D pl m M a b c) : nj_B D pl m M Sc' r := by
  have key : ∀ x y c, Sc' x y → nj_c D pl m M x y c → Sc x y := by
    intro x y c hs hc
    rcases (e x y).mp hs with z | ⟨rfl, rfl⟩
    · exact z
    · exact absurd hc (hn c)
  cases r with
  | none => exact fun x y c hs hc => h x y c (key x y c hs hc) hc
  | some w =>
    obtain ⟨x, y, c⟩ := w
    exact ⟨(e x y).mpr (Or.inl h.1), h.2.1, fun x' y' c' hs hc => h.2.2 x' y' c' (key x' y' c' hs hc) hc⟩
theorem nj_keep {a0 b0 c0 : Nat} (h : nj_B D pl m M Sc (some (a0, b0, c0))) (e : ∀ x y, Sc' x y ↔ Sc x y ∨ x = a ∧ y = b) (hc : nj_c D pl m M a b c) (hl : nj_le c0 a0 b0 c a b) : nj_B D pl m M Sc' (some (a0, b0, c0)) := by
  refine ⟨(e _ _).mpr (Or.inl h.1), h.2.1, fun x y c' hs hc' => ?_⟩
  rcases (e x y).mp hs with z | ⟨rfl, rfl⟩
  · exact h.2.2 x y c' z hc'
  · have : c = c' := by
      have h1 := hc.2.2.2.2
      rw [hc'.2.2.2.2] at h1
      exact (Option.some.inj h1).symm
    rw [← this]; exact hl
theorem nj_take (h : nj_B D pl m M Sc r) (e : ∀ x y, Sc' x y ↔ Sc x y ∨ x = a ∧ y = b) (hc : nj_c D pl m M a b c) (hl : ∀ a0 b0 c0, r = some (a0, b0, c0) → nj_le c a b c0 a0 b0) : nj_B D pl m M Sc' (some (a, b, c)) := by
  refine ⟨(e a b).mpr (Or.inr ⟨rfl, rfl⟩), hc, fun x y c' hs hc' => ?_⟩
  rcases (e x y).mp hs with z | ⟨rfl, rfl⟩
  · cases r with
    | none => exact absurd hc' (h x y c' z)
    | some w =>
      obtain ⟨a0, b0, c0⟩ := w
      have h1 := hl a0 b0 c0 rfl
      have h2 := h.2.2 x y c' z hc'
      unfold nj_le at h1 h2 ⊢
      omega
  · have : c = c' := by
      have h1 := hc.2.2.2.2
      rw [hc'.2.2.2.2] at h1
      exact (Option.some.inj h1).symm
    rw [this]
    exact Or.inr ⟨rfl, Or.inr ⟨rfl, Nat.le_refl _⟩⟩
theorem nj_R_one : ∀ j t t', nj_R D pl m j t → nj_R D pl m j t' → t = t' := by
  intro j
  induction j with
  | zero => rintro t t' rfl rfl; rfl
  | succ j ih =>
    rintro t t' ⟨s, r, h1, h2, rfl⟩ ⟨s', r', h1', h2', rfl⟩
    obtain rfl := ih s s' h1 h1'
    rw [nj_one h2 h2']
theorem nj_R_more {j : Nat} (h : nj_R D pl m j t) (hn : nj_B D pl m (nj_M t) (fun _ _ => True) none) : ∀ i, nj_R D pl m (j + i) t := by
  intro i
  induction i with
  | zero => exact h
  | succ i ih => exact ⟨t, none, ih, hn, rfl⟩
def nj_I (D : Nat → Nat → Option Nat) (pl : Nat → Nat) (m : Nat) (t : nj_T) : Prop := (∀ i, i < t.k → t.f i < m ∧ t.g i < m ∧ t.g i ≠ 0 ∧ ∃ c, D (t.g i) (pl (t.f i)) = some c) ∧ ∀ i j, i < t.k → j < t.k → t.g i = t.g j → i = j
theorem nj_I.k (h : nj_I D pl m t) : t.k ≤ m - 1 :=
  inj_le (f := fun i => t.g i - 1) (fun i hi => by have := h.1 i hi; show t.g i - 1 < m - 1; omega) (fun i j hi hj e => h.2 i j hi hj (by
    have e : t.g i - 1 = t.g j - 1 := e
    have := h.1 i hi; have := h.1 j hj; omega))
theorem nj_M_ap : ∀ x, nj_M (nj_ap t (some (a, b, c))) x ↔ nj_M t x ∨ x = b := by
  intro x
  constructor
  · rintro (z | ⟨i, i1, i2⟩)
    · exact Or.inl (Or.inl z)
    · have i1 : i < t.k + 1 := i1
      have i2 : va_up t.g t.k b i = x := i2
      by_cases z : i = t.k
      · subst z; rw [up_i] at i2; exact Or.inr i2.symm
      · rw [up_o z] at i2; exact Or.inl (Or.inr ⟨i, by omega, i2⟩)
  · rintro ((z | ⟨i, i1, i2⟩) | rfl)
    · exact Or.inl z
    · exact Or.inr ⟨i, Nat.lt_succ_of_lt i1, by show va_up t.g t.k b i = x; rw [up_o (by omega)]; exact i2⟩
    · exact Or.inr ⟨t.k, Nat.lt_succ_self _, up_i⟩
theorem nj_I.ap (h : nj_I D pl m t) (hc : nj_c D pl m (nj_M t) a b c) : nj_I D pl m (nj_ap t (some (a, b, c))) := by
  obtain ⟨h1, h2, h3, h4, h5⟩ := hc
  have nb : ∀ i, i < t.k → t.g i ≠ b := fun i hi e => h4 (Or.inr ⟨i, hi, e⟩)
  refine ⟨fun i hi => ?_, fun i j hi hj e => ?_⟩
  · have hi : i < t.k + 1 := hi
    show va_up t.f t.k a i < m ∧ va_up t.g t.k b i < m ∧ va_up t.g t.k b i ≠ 0 ∧ ∃ c, D (va_up t.g t.k b i) (pl (va_up t.f t.k a i)) = some c
    by_cases z : i = t.k
    · subst z; rw [up_i, up_i]; exact ⟨h1, h2, fun e => h4 (Or.inl e), c, h5⟩
    · rw [up_o z, up_o z]; exact h.1 i (by omega)
  · have hi : i < t.k + 1 := hi
    have hj : j < t.k + 1 := hj
    have e : va_up t.g t.k b i = va_up t.g t.k b j := e
    by_cases z : i = t.k
    · by_cases z2 : j = t.k
      · omega
      · subst z; rw [up_i, up_o z2] at e; exact absurd e.symm (nb j (by omega))
    · by_cases z2 : j = t.k
      · subst z2; rw [up_i, up_o z] at e; exact absurd e (nb i (by omega))
      · rw [up_o z, up_o z2] at e; exact h.2 i j (by omega) (by omega) e
theorem nj_I.app (h : nj_I D pl m t) (hb : nj_B D pl m (nj_M t) Sc r) : nj_I D pl m (nj_ap t r) := by
  cases r with
  | none => exact h
  | some x => obtain ⟨a, b, c⟩ := x; exact h.ap hb.2.1
theorem nj_I_0 : nj_I D pl m nj_0 := ⟨fun i hi => absurd hi (Nat.not_lt_zero _), fun i j hi => absurd hi (Nat.not_lt_zero _)⟩
theorem nj_R_I : ∀ j t, nj_R D pl m j t → nj_I D pl m t := by
  intro j
  induction j with
  | zero => rintro t rfl; exact nj_I_0
  | succ j ih => rintro t ⟨s, r, h1, h2, rfl⟩; exact (ih s h1).app h2
end JMATH
section JOIN
variable {X : sw_X} {σ τ : sw_Sg} {x y v w st : Int32} {n p q br s t m c : Nat} {h : Nat → Nat} {kd : Nat → Int32} {d : Nat → Option Nat} {D : Nat → Nat → Option Nat} {pl : Nat → Nat} {T : nj_T}
/-- the towns in the class -/
def nc_P (n m : Nat) (pl : Nat → Nat) (τ : sw_Sg) : Prop := τ 4 2 = nI m ∧ m ≤ 6 ∧ ∀ a, a < m → τ 53 a = nI (pl a) ∧ pl a < n * n
theorem nc_P.fr {l : List Nat} {u : sw_Sg} (a : nc_P n m pl σ) (hf : fr_ l σ u) (h1 : 4 ∉ l) (h2 : 53 ∉ l) : nc_P n m pl u := ⟨by rw [hf 4 h1]; exact a.1, a.2.1, fun i hi => by rw [hf 53 h2]; exact a.2.2 i hi⟩
def nc_T (m : Nat) (t : nj_T) (τ : sw_Sg) : Prop := τ 5 5 = nI (t.k + (if 0 < m then 1 else 0)) ∧ τ 5 6 = nI t.tot ∧ τ 5 7 = nI t.k ∧ (∀ a, a < m → (nj_M t a → τ 56 a = 1) ∧ (¬ nj_M t a → τ 56 a = 0)) ∧ ∀ i, i < t.k → τ 57 (2 * i) = nI (t.f i) ∧ τ 57 (2 * i + 1) = nI (t.g i)
theorem C_X1_joinCheapest (hP : nc_P n m pl σ) (n24 : n ≤ 24) (hl : ∀ t, t < m → nt_lab n t (D t) σ) (hbd : ∀ t v c, t < m → D t v = some c → c ≤ 300000) (hT : nc_T m T σ) (hI : nj_I D pl m T) :
    sw_Mv X 2 mX1_joinCheapest [.ref (sw_ad X 5), .ref (sw_ad X 4)] σ (fun u => fr_ [5, 56, 57] σ u ∧ u 5 4 = σ 5 4 ∧ ∃ r, nj_B D pl m (nj_M T) (fun _ _ => True) r ∧ nc_T m (nj_ap T r) u) := by
  have h576 := gr_576 n24
  obtain ⟨pm, m6, pp⟩ := hP
  refine sw_ME.ofF (by decide +kernel) rfl (Nat.le_of_ble_eq_true rfl) rfl ?_
  have outer : ∀ (k a : Nat), a + k = m → ∀ (r : Option (Nat × Nat × Nat)) (B C : Value), nj_B D pl m (nj_M T) (fun x _ => x < a) r →
      SW X 2 mX1_joinCheapest sw_E0 (sw_Rv (fun u => fr_ [5, 56, 57] σ u ∧ u 5 4 = σ 5 4 ∧ ∃ r, nj_B D pl m (nj_M T) (fun _ _ => True) r ∧ nc_T m (nj_ap T r) u)) 13 [.ref (sw_ad X 5), .ref (sw_ad X 4), .int (nj_f r), .int (nj_s r), .int (nj_l r), .int (nI a), B, C] [] σ := by
    intro k
    induction k with
    | zero =>
      intro a ha r B C hr
      obtain rfl : a = m := by omega
      have hr' : nj_B D pl a (nj_M T) (fun _ _ => True) r := nj_ext hr (fun x y hx _ => ⟨fun _ => trivial, fun _ => hx⟩)
      cases r with
      | none =>
        refine SW.iload (q := 15) (i := 5) dX1_joinCheapest_13 rfl rfl ?_
        refine SW.aload_n (q := 16) (i := 1) dX1_joinCheapest_15 rfl rfl rfl ?_
        refine SW.getI (q := 19) (i := 4) fX1_42 rfl rfl dX1_joinCheapest_16 rfl ?_
        refine SW.icmp_ge (q := 22) (tgt := 112) dX1_joinCheapest_19 (by decide) rfl (fun _ => ?_) (fun c19 => absurd ((by rw [pm]; exact Int32.le_refl _)) c19)
        refine SW.iload_n (q := 113) (i := 2) dX1_joinCheapest_112 rfl rfl rfl ?_
        refine SW.bipush (q := 115) (v := (-6)) dX1_joinCheapest_113 (by decide) rfl ?_
        refine SW.icmp_eq (q := 118) (tgt := 188) dX1_joinCheapest_115 (by decide) rfl (fun _ => ?_) (fun c115 => absurd (rfl) c115)
        refine SW.vretR rfl dX1_joinCheapest_188 ?_
        exact ⟨fr_rf, rfl, none, hr', hT⟩
      | some w =>
        obtain ⟨a0, b0, c0⟩ := w
        have hI' := (hI.ap hr'.2.1).k
        have hI' : T.k + 1 ≤ a - 1 := hI'
        obtain ⟨c1, c2, c3, c4, c5⟩ := hr'.2.1
        have fi : nj_f (some (a0, b0, c0)) = nI a0 := rfl
        have si : nj_s (some (a0, b0, c0)) = nI b0 := rfl
        have li : nj_l (some (a0, b0, c0)) = nI c0 := rfl
        obtain ⟨t1, t2, t3, t4, t5⟩ := hT
        have mul2 : (2 : Int32) * nI T.k = nI (2 * T.k) := pk_mul 2 T.k
        have mul3 : (2 : Int32) * nI T.k + 1 = nI (2 * T.k + 1) := by rw [mul2, nI_1]
        refine SW.iload (q := 15) (i := 5) dX1_joinCheapest_13 rfl rfl ?_
        refine SW.aload_n (q := 16) (i := 1) dX1_joinCheapest_15 rfl rfl rfl ?_
        refine SW.getI (q := 19) (i := 4) fX1_42 rfl rfl dX1_joinCheapest_16 rfl ?_
        refine SW.icmp_ge (q := 22) (tgt := 112) dX1_joinCheapest_19 (by decide) rfl (fun _ => ?_) (fun c19 => absurd ((by rw [pm]; exact Int32.le_refl _)) c19)
        refine SW.iload_n (q := 113) (i := 2) dX1_joinCheapest_112 rfl rfl rfl ?_
        refine SW.bipush (q := 115) (v := (-6)) dX1_joinCheapest_113 (by decide) rfl ?_
        refine SW.icmp_eq (q := 118) (tgt := 188) dX1_joinCheapest_115 (by decide) rfl (fun c115 => absurd c115 ((by rw [fi]; exact nI_n6 (by omega)))) (fun _ => ?_)
        refine SW.aload_n (q := 119) (i := 0) dX1_joinCheapest_118 rfl rfl rfl ?_
        refine SW.getR (q := 122) (i := 5) (j := 30) fX1_23 rfl rfl dX1_joinCheapest_119 rfl ?_
        refine SW.iload_n (q := 123) (i := 3) dX1_joinCheapest_122 rfl rfl rfl ?_
        refine SW.iconst (q := 124) (v := 1) dX1_joinCheapest_123 (by decide) rfl ?_
        refine SW.cG (q := 127) (C_X3_putn (i := 30) (j := 56) (n := 6) rfl rfl (k := b0) si (by omega)) vX1_61 (by decide) rfl rfl rfl rfl (Nat.le_of_ble_eq_true rfl) dX1_joinCheapest_124 rfl ?_
        refine SW.aload_n (q := 128) (i := 0) dX1_joinCheapest_127 rfl rfl rfl ?_
        refine SW.dup (q := 129) dX1_joinCheapest_128 rfl rfl ?_
        refine SW.getI (q := 132) (i := 5) fX1_33 rfl rfl dX1_joinCheapest_129 rfl ?_
        refine SW.iconst (q := 133) (v := 1) dX1_joinCheapest_132 (by decide) rfl ?_
        refine SW.iadd (q := 134) dX1_joinCheapest_133 rfl ?_
        refine SW.putI (q := 137) (i := 5) pX1_33 rfl rfl dX1_joinCheapest_134 rfl ?_
        refine SW.aload_n (q := 138) (i := 0) dX1_joinCheapest_137 rfl rfl rfl ?_
        refine SW.dup (q := 139) dX1_joinCheapest_138 rfl rfl ?_
        refine SW.getI (q := 142) (i := 5) fX1_36 rfl rfl dX1_joinCheapest_139 rfl ?_
        refine SW.iload (q := 144) (i := 4) dX1_joinCheapest_142 rfl rfl ?_
        refine SW.iadd (q := 145) dX1_joinCheapest_144 rfl ?_
        refine SW.putI (q := 148) (i := 5) pX1_36 rfl rfl dX1_joinCheapest_145 rfl ?_
        refine SW.aload_n (q := 149) (i := 0) dX1_joinCheapest_148 rfl rfl rfl ?_
        refine SW.getR (q := 152) (i := 5) (j := 31) fX1_26 rfl rfl dX1_joinCheapest_149 rfl ?_
        refine SW.iconst (q := 153) (v := 2) dX1_joinCheapest_152 (by decide) rfl ?_
        refine SW.aload_n (q := 154) (i := 0) dX1_joinCheapest_153 rfl rfl rfl ?_
        refine SW.getI (q := 157) (i := 5) fX1_39 rfl rfl dX1_joinCheapest_154 rfl ?_
        refine SW.imul (q := 158) dX1_joinCheapest_157 rfl ?_
        refine SW.iload_n (q := 159) (i := 2) dX1_joinCheapest_158 rfl rfl rfl ?_
        refine SW.cG (q := 162) (C_X3_putn (i := 31) (j := 57) (n := 12) rfl rfl (k := 2 * T.k) (by rw [sw_o1 (by decide), sw_o1 (by decide), sw_un (by decide), t3, mul2]) (by omega)) vX1_61 (by decide) rfl rfl rfl rfl (Nat.le_of_ble_eq_true rfl) dX1_joinCheapest_159 rfl ?_
        refine SW.aload_n (q := 163) (i := 0) dX1_joinCheapest_162 rfl rfl rfl ?_
        refine SW.getR (q := 166) (i := 5) (j := 31) fX1_26 rfl rfl dX1_joinCheapest_163 rfl ?_
        refine SW.iconst (q := 167) (v := 2) dX1_joinCheapest_166 (by decide) rfl ?_
        refine SW.aload_n (q := 168) (i := 0) dX1_joinCheapest_167 rfl rfl rfl ?_
        refine SW.getI (q := 171) (i := 5) fX1_39 rfl rfl dX1_joinCheapest_168 rfl ?_
        refine SW.imul (q := 172) dX1_joinCheapest_171 rfl ?_
        refine SW.iconst (q := 173) (v := 1) dX1_joinCheapest_172 (by decide) rfl ?_
        refine SW.iadd (q := 174) dX1_joinCheapest_173 rfl ?_
        refine SW.iload_n (q := 175) (i := 3) dX1_joinCheapest_174 rfl rfl rfl ?_
        refine SW.cG (q := 178) (C_X3_putn (i := 31) (j := 57) (n := 12) rfl rfl (k := 2 * T.k + 1) (by rw [sw_un (by decide), sw_o1 (by decide), sw_o1 (by decide), sw_un (by decide), t3, mul3]) (by omega)) vX1_61 (by decide) rfl rfl rfl rfl (Nat.le_of_ble_eq_true rfl) dX1_joinCheapest_175 rfl ?_
        refine SW.aload_n (q := 179) (i := 0) dX1_joinCheapest_178 rfl rfl rfl ?_
        refine SW.dup (q := 180) dX1_joinCheapest_179 rfl rfl ?_
        refine SW.getI (q := 183) (i := 5) fX1_39 rfl rfl dX1_joinCheapest_180 rfl ?_
        refine SW.iconst (q := 184) (v := 1) dX1_joinCheapest_183 (by decide) rfl ?_
        refine SW.iadd (q := 185) dX1_joinCheapest_184 rfl ?_
        refine SW.putI (q := 188) (i := 5) pX1_39 rfl rfl dX1_joinCheapest_185 rfl ?_
        refine SW.vretR rfl dX1_joinCheapest_188 ?_
        refine ⟨fr_up (fr_up (fr_up (fr_up (fr_up (fr_up fr_rf (by decide)) (by decide)) (by decide)) (by decide)) (by decide)) (by decide), ?_, _, hr', ?_, ?_, ?_, fun x hx => ?_, fun i hi => ?_⟩
        · rw [sw_o1 (by decide), sw_un (by decide), sw_un (by decide), sw_o1 (by decide), sw_o1 (by decide), sw_un (by decide)]
        · rw [sw_o1 (by decide), sw_un (by decide), sw_un (by decide), sw_o1 (by decide), sw_i1, sw_un (by decide), t1, nI_1]
          show nI _ = nI (T.k + 1 + _)
          congr 1; omega
        · rw [sw_o1 (by decide), sw_un (by decide), sw_un (by decide), sw_i1, sw_o1 (by decide), sw_un (by decide), t2, li, nI_add]; rfl
        · rw [sw_i1, sw_un (by decide), sw_un (by decide), sw_o1 (by decide), sw_o1 (by decide), sw_un (by decide), t3, nI_1]; rfl
        · rw [sw_un (by decide), sw_un (by decide), sw_un (by decide), sw_un (by decide), sw_un (by decide)]
          by_cases z : x = b0
          · subst z
            exact ⟨fun _ => sw_i1, fun z => absurd ((nj_M_ap x).mpr (Or.inr rfl)) z⟩
          · rw [sw_o1 z]
            exact ⟨fun w => (t4 x hx).1 (((nj_M_ap x).mp w).resolve_right z), fun w => (t4 x hx).2 (fun y => w ((nj_M_ap x).mpr (Or.inl y)))⟩
        · have hi : i < T.k + 1 := hi
          show _ = nI (va_up T.f T.k a0 i) ∧ _ = nI (va_up T.g T.k b0 i)
          rw [sw_un (by decide)]
          by_cases z : i = T.k
          · subst z
            rw [up_i, up_i, sw_i1, sw_o1 (by omega), sw_i1]
            exact ⟨fi, si⟩
          · rw [up_o z, up_o z]
            exact ⟨by rw [sw_o1 (by omega), sw_o1 (by omega), sw_un (by decide), sw_un (by decide), sw_un (by decide)]; exact (t5 i (by omega)).1, by rw [sw_o1 (by omega), sw_o1 (by omega), sw_un (by decide), sw_un (by decide), sw_un (by decide)]; exact (t5 i (by omega)).2⟩
    | succ k ih =>
      intro a ha r B C hr
      have inner : ∀ (k2 b : Nat), b + k2 = m → ∀ (r : Option (Nat × Nat × Nat)) (C : Value), nj_B D pl m (nj_M T) (fun x y => x < a ∨ x = a ∧ y < b) r →
          SW X 2 mX1_joinCheapest sw_E0 (sw_Rv (fun u => fr_ [5, 56, 57] σ u ∧ u 5 4 = σ 5 4 ∧ ∃ r, nj_B D pl m (nj_M T) (fun _ _ => True) r ∧ nc_T m (nj_ap T r) u)) 25 [.ref (sw_ad X 5), .ref (sw_ad X 4), .int (nj_f r), .int (nj_s r), .int (nj_l r), .int (nI a), .int (nI b), C] [] σ := by
        intro k2
        induction k2 with
        | zero =>
          intro b hb r C hr
          obtain rfl : b = m := by omega
          refine SW.iload (q := 27) (i := 6) dX1_joinCheapest_25 rfl rfl ?_
          refine SW.aload_n (q := 28) (i := 1) dX1_joinCheapest_27 rfl rfl rfl ?_
          refine SW.getI (q := 31) (i := 4) fX1_42 rfl rfl dX1_joinCheapest_28 rfl ?_
          refine SW.icmp_ge (q := 34) (tgt := 106) dX1_joinCheapest_31 (by decide) rfl (fun _ => ?_) (fun c31 => absurd ((by rw [pm]; exact Int32.le_refl _)) c31)
          refine SW.iinc (q := 109) (v := _ + 1) dX1_joinCheapest_106 rfl rfl (by decide) rfl ?_
          refine SW.goto (q := 13) dX1_joinCheapest_109 (by decide) ?_
          exact SW.eq (by rw [nI_1]; rfl) rfl rfl (ih (a + 1) (by omega) r _ _ (nj_ext hr (fun x y hx hy => by omega)))
        | succ k2 ih2 =>
          intro b hb r C hr
          have he : ∀ x y, (x < a ∨ x = a ∧ y < b + 1) ↔ (x < a ∨ x = a ∧ y < b) ∨ x = a ∧ y = b := by intro x y; omega
          have keep : nj_B D pl m (nj_M T) (fun x y => x < a ∨ x = a ∧ y < b + 1) r → ∀ C, SW X 2 mX1_joinCheapest sw_E0 (sw_Rv (fun u => fr_ [5, 56, 57] σ u ∧ u 5 4 = σ 5 4 ∧ ∃ r, nj_B D pl m (nj_M T) (fun _ _ => True) r ∧ nc_T m (nj_ap T r) u)) 25 [.ref (sw_ad X 5), .ref (sw_ad X 4), .int (nj_f r), .int (nj_s r), .int (nj_l r), .int (nI a), .int (nI (b + 1)), C] [] σ := fun z C => ih2 (b + 1) (by omega) r C z
          obtain ⟨pa1, pa2⟩ := pp a (by omega)
          have am := (hT.2.2.2.1 a (by omega))
          have bm := (hT.2.2.2.1 b (by omega))
          have lv := hl b (by omega) (pl a) pa2
          by_cases ma : nj_M T a
          · by_cases mb : nj_M T b
            · refine SW.iload (q := 27) (i := 6) dX1_joinCheapest_25 rfl rfl ?_
              refine SW.aload_n (q := 28) (i := 1) dX1_joinCheapest_27 rfl rfl rfl ?_
              refine SW.getI (q := 31) (i := 4) fX1_42 rfl rfl dX1_joinCheapest_28 rfl ?_
              refine SW.icmp_ge (q := 34) (tgt := 106) dX1_joinCheapest_31 (by decide) rfl (fun c31 => absurd c31 ((by rw [pm]; exact nI_ge (by omega) (by omega)))) (fun _ => ?_)
              refine SW.aload_n (q := 35) (i := 0) dX1_joinCheapest_34 rfl rfl rfl ?_
              refine SW.aload_n (q := 36) (i := 1) dX1_joinCheapest_35 rfl rfl rfl ?_
              refine SW.getR (q := 39) (i := 4) (j := 27) fX1_47 rfl rfl dX1_joinCheapest_36 rfl ?_
              refine SW.iload (q := 41) (i := 5) dX1_joinCheapest_39 rfl rfl ?_
              refine SW.cF (q := 44) (C_X3_atn (i := 27) (j := 53) (n := 6) rfl rfl (k := a) rfl (by omega)) vX1_50 (by decide) rfl rfl rfl rfl (Nat.le_of_ble_eq_true rfl) dX1_joinCheapest_41 rfl ?_
              refine SW.iload (q := 46) (i := 6) dX1_joinCheapest_44 rfl rfl ?_
              refine SW.cF (q := 49) (C_X1_costOf (p := pl a) (t := b) pa1 rfl (by omega) (by omega)) vX1_125 (by decide) rfl rfl rfl rfl (Nat.le_of_ble_eq_true rfl) dX1_joinCheapest_46 rfl ?_
              refine SW.istore (q := 51) (i := 7) dX1_joinCheapest_49 (by decide) rfl ?_
              refine SW.aload_n (q := 52) (i := 0) dX1_joinCheapest_51 rfl rfl rfl ?_
              refine SW.getR (q := 55) (i := 5) (j := 30) fX1_23 rfl rfl dX1_joinCheapest_52 rfl ?_
              refine SW.iload (q := 57) (i := 5) dX1_joinCheapest_55 rfl rfl ?_
              refine SW.cF (q := 60) (C_X3_atn (i := 30) (j := 56) (n := 6) rfl rfl (k := a) rfl (by omega)) vX1_50 (by decide) rfl rfl rfl rfl (Nat.le_of_ble_eq_true rfl) dX1_joinCheapest_57 rfl ?_
              refine SW.iconst (q := 61) (v := 1) dX1_joinCheapest_60 (by decide) rfl ?_
              refine SW.icmp_ne (q := 64) (tgt := 100) dX1_joinCheapest_61 (by decide) rfl (fun c61 => absurd ((am.1 ma)) c61) (fun _ => ?_)
              refine SW.aload_n (q := 65) (i := 0) dX1_joinCheapest_64 rfl rfl rfl ?_
              refine SW.getR (q := 68) (i := 5) (j := 30) fX1_23 rfl rfl dX1_joinCheapest_65 rfl ?_
              refine SW.iload (q := 70) (i := 6) dX1_joinCheapest_68 rfl rfl ?_
              refine SW.cF (q := 73) (C_X3_atn (i := 30) (j := 56) (n := 6) rfl rfl (k := b) rfl (by omega)) vX1_50 (by decide) rfl rfl rfl rfl (Nat.le_of_ble_eq_true rfl) dX1_joinCheapest_70 rfl ?_
              refine SW.if_ne (q := 76) (tgt := 100) dX1_joinCheapest_73 (by decide) rfl (fun _ => ?_) (fun c73 => absurd c73 ((by rw [bm.1 mb]; decide)))
              refine SW.iinc (q := 103) (v := _ + 1) dX1_joinCheapest_100 rfl rfl (by decide) rfl ?_
              refine SW.goto (q := 25) dX1_joinCheapest_103 (by decide) ?_
              exact SW.eq (by rw [nI_1]; rfl) rfl rfl (keep (nj_no hr he (fun c z => z.2.2.2.1 mb)) _)
            · cases hd : D b (pl a) with
              | none =>
                have lv1 : σ 54 (576 * b + pl a) = -6 := by rw [lv, hd]; rfl
                refine SW.iload (q := 27) (i := 6) dX1_joinCheapest_25 rfl rfl ?_
                refine SW.aload_n (q := 28) (i := 1) dX1_joinCheapest_27 rfl rfl rfl ?_
                refine SW.getI (q := 31) (i := 4) fX1_42 rfl rfl dX1_joinCheapest_28 rfl ?_
                refine SW.icmp_ge (q := 34) (tgt := 106) dX1_joinCheapest_31 (by decide) rfl (fun c31 => absurd c31 ((by rw [pm]; exact nI_ge (by omega) (by omega)))) (fun _ => ?_)
                refine SW.aload_n (q := 35) (i := 0) dX1_joinCheapest_34 rfl rfl rfl ?_
                refine SW.aload_n (q := 36) (i := 1) dX1_joinCheapest_35 rfl rfl rfl ?_
                refine SW.getR (q := 39) (i := 4) (j := 27) fX1_47 rfl rfl dX1_joinCheapest_36 rfl ?_
                refine SW.iload (q := 41) (i := 5) dX1_joinCheapest_39 rfl rfl ?_
                refine SW.cF (q := 44) (C_X3_atn (i := 27) (j := 53) (n := 6) rfl rfl (k := a) rfl (by omega)) vX1_50 (by decide) rfl rfl rfl rfl (Nat.le_of_ble_eq_true rfl) dX1_joinCheapest_41 rfl ?_
                refine SW.iload (q := 46) (i := 6) dX1_joinCheapest_44 rfl rfl ?_
                refine SW.cF (q := 49) (C_X1_costOf (p := pl a) (t := b) pa1 rfl (by omega) (by omega)) vX1_125 (by decide) rfl rfl rfl rfl (Nat.le_of_ble_eq_true rfl) dX1_joinCheapest_46 rfl ?_
                refine SW.istore (q := 51) (i := 7) dX1_joinCheapest_49 (by decide) rfl ?_
                refine SW.aload_n (q := 52) (i := 0) dX1_joinCheapest_51 rfl rfl rfl ?_
                refine SW.getR (q := 55) (i := 5) (j := 30) fX1_23 rfl rfl dX1_joinCheapest_52 rfl ?_
                refine SW.iload (q := 57) (i := 5) dX1_joinCheapest_55 rfl rfl ?_
                refine SW.cF (q := 60) (C_X3_atn (i := 30) (j := 56) (n := 6) rfl rfl (k := a) rfl (by omega)) vX1_50 (by decide) rfl rfl rfl rfl (Nat.le_of_ble_eq_true rfl) dX1_joinCheapest_57 rfl ?_
                refine SW.iconst (q := 61) (v := 1) dX1_joinCheapest_60 (by decide) rfl ?_
                refine SW.icmp_ne (q := 64) (tgt := 100) dX1_joinCheapest_61 (by decide) rfl (fun c61 => absurd ((am.1 ma)) c61) (fun _ => ?_)
                refine SW.aload_n (q := 65) (i := 0) dX1_joinCheapest_64 rfl rfl rfl ?_
                refine SW.getR (q := 68) (i := 5) (j := 30) fX1_23 rfl rfl dX1_joinCheapest_65 rfl ?_
                refine SW.iload (q := 70) (i := 6) dX1_joinCheapest_68 rfl rfl ?_
                refine SW.cF (q := 73) (C_X3_atn (i := 30) (j := 56) (n := 6) rfl rfl (k := b) rfl (by omega)) vX1_50 (by decide) rfl rfl rfl rfl (Nat.le_of_ble_eq_true rfl) dX1_joinCheapest_70 rfl ?_
                refine SW.if_ne (q := 76) (tgt := 100) dX1_joinCheapest_73 (by decide) rfl (fun c73 => absurd ((bm.2 mb)) c73) (fun _ => ?_)
                refine SW.iload (q := 78) (i := 7) dX1_joinCheapest_76 rfl rfl ?_
                refine SW.bipush (q := 80) (v := (-6)) dX1_joinCheapest_78 (by decide) rfl ?_
                refine SW.icmp_eq (q := 83) (tgt := 100) dX1_joinCheapest_80 (by decide) rfl (fun _ => ?_) (fun c80 => absurd (lv1) c80)
                refine SW.iinc (q := 103) (v := _ + 1) dX1_joinCheapest_100 rfl rfl (by decide) rfl ?_
                refine SW.goto (q := 25) dX1_joinCheapest_103 (by decide) ?_
                exact SW.eq (by rw [nI_1]; rfl) rfl rfl (keep (nj_no hr he (fun c z => by have := z.2.2.2.2; rw [hd] at this; cases this)) _)
              | some c =>
                have lv1 : σ 54 (576 * b + pl a) = nI c := by rw [lv, hd]; rfl
                have cb := hbd b (pl a) c (by omega) hd
                have cand : nj_c D pl m (nj_M T) a b c := ⟨by omega, by omega, ma, mb, hd⟩
                by_cases hlt : ∀ a0 b0 c0, r = some (a0, b0, c0) → c < c0
                · have ll : ¬ nj_l r ≤ nI c := by
                    cases r with
                    | none => show ¬ nI 1000000000 ≤ nI c; exact nI_ge (by omega) (by omega)
                    | some w =>
                      obtain ⟨a0, b0, c0⟩ := w
                      have := hlt a0 b0 c0 rfl
                      have := hbd b0 (pl a0) c0 hr.2.1.2.1 hr.2.1.2.2.2.2
                      show ¬ nI c0 ≤ nI c; exact nI_ge (by omega) (by omega)
                  refine SW.iload (q := 27) (i := 6) dX1_joinCheapest_25 rfl rfl ?_
                  refine SW.aload_n (q := 28) (i := 1) dX1_joinCheapest_27 rfl rfl rfl ?_
                  refine SW.getI (q := 31) (i := 4) fX1_42 rfl rfl dX1_joinCheapest_28 rfl ?_
                  refine SW.icmp_ge (q := 34) (tgt := 106) dX1_joinCheapest_31 (by decide) rfl (fun c31 => absurd c31 ((by rw [pm]; exact nI_ge (by omega) (by omega)))) (fun _ => ?_)
                  refine SW.aload_n (q := 35) (i := 0) dX1_joinCheapest_34 rfl rfl rfl ?_
                  refine SW.aload_n (q := 36) (i := 1) dX1_joinCheapest_35 rfl rfl rfl ?_
                  refine SW.getR (q := 39) (i := 4) (j := 27) fX1_47 rfl rfl dX1_joinCheapest_36 rfl ?_
                  refine SW.iload (q := 41) (i := 5) dX1_joinCheapest_39 rfl rfl ?_
                  refine SW.cF (q := 44) (C_X3_atn (i := 27) (j := 53) (n := 6) rfl rfl (k := a) rfl (by omega)) vX1_50 (by decide) rfl rfl rfl rfl (Nat.le_of_ble_eq_true rfl) dX1_joinCheapest_41 rfl ?_
                  refine SW.iload (q := 46) (i := 6) dX1_joinCheapest_44 rfl rfl ?_
                  refine SW.cF (q := 49) (C_X1_costOf (p := pl a) (t := b) pa1 rfl (by omega) (by omega)) vX1_125 (by decide) rfl rfl rfl rfl (Nat.le_of_ble_eq_true rfl) dX1_joinCheapest_46 rfl ?_
                  refine SW.istore (q := 51) (i := 7) dX1_joinCheapest_49 (by decide) rfl ?_
                  refine SW.aload_n (q := 52) (i := 0) dX1_joinCheapest_51 rfl rfl rfl ?_
                  refine SW.getR (q := 55) (i := 5) (j := 30) fX1_23 rfl rfl dX1_joinCheapest_52 rfl ?_
                  refine SW.iload (q := 57) (i := 5) dX1_joinCheapest_55 rfl rfl ?_
                  refine SW.cF (q := 60) (C_X3_atn (i := 30) (j := 56) (n := 6) rfl rfl (k := a) rfl (by omega)) vX1_50 (by decide) rfl rfl rfl rfl (Nat.le_of_ble_eq_true rfl) dX1_joinCheapest_57 rfl ?_
                  refine SW.iconst (q := 61) (v := 1) dX1_joinCheapest_60 (by decide) rfl ?_
                  refine SW.icmp_ne (q := 64) (tgt := 100) dX1_joinCheapest_61 (by decide) rfl (fun c61 => absurd ((am.1 ma)) c61) (fun _ => ?_)
                  refine SW.aload_n (q := 65) (i := 0) dX1_joinCheapest_64 rfl rfl rfl ?_
                  refine SW.getR (q := 68) (i := 5) (j := 30) fX1_23 rfl rfl dX1_joinCheapest_65 rfl ?_
                  refine SW.iload (q := 70) (i := 6) dX1_joinCheapest_68 rfl rfl ?_
                  refine SW.cF (q := 73) (C_X3_atn (i := 30) (j := 56) (n := 6) rfl rfl (k := b) rfl (by omega)) vX1_50 (by decide) rfl rfl rfl rfl (Nat.le_of_ble_eq_true rfl) dX1_joinCheapest_70 rfl ?_
                  refine SW.if_ne (q := 76) (tgt := 100) dX1_joinCheapest_73 (by decide) rfl (fun c73 => absurd ((bm.2 mb)) c73) (fun _ => ?_)
                  refine SW.iload (q := 78) (i := 7) dX1_joinCheapest_76 rfl rfl ?_
                  refine SW.bipush (q := 80) (v := (-6)) dX1_joinCheapest_78 (by decide) rfl ?_
                  refine SW.icmp_eq (q := 83) (tgt := 100) dX1_joinCheapest_80 (by decide) rfl (fun c80 => absurd c80 ((by rw [lv1]; exact nI_n6 (by omega)))) (fun _ => ?_)
                  refine SW.iload (q := 85) (i := 7) dX1_joinCheapest_83 rfl rfl ?_
                  refine SW.iload (q := 87) (i := 4) dX1_joinCheapest_85 rfl rfl ?_
                  refine SW.icmp_ge (q := 90) (tgt := 100) dX1_joinCheapest_87 (by decide) rfl (fun c87 => absurd c87 ((by rw [lv1]; exact ll))) (fun _ => ?_)
                  refine SW.iload (q := 92) (i := 5) dX1_joinCheapest_90 rfl rfl ?_
                  refine SW.istore_n (q := 93) (i := 2) dX1_joinCheapest_92 rfl (by decide) rfl ?_
                  refine SW.iload (q := 95) (i := 6) dX1_joinCheapest_93 rfl rfl ?_
                  refine SW.istore_n (q := 96) (i := 3) dX1_joinCheapest_95 rfl (by decide) rfl ?_
                  refine SW.iload (q := 98) (i := 7) dX1_joinCheapest_96 rfl rfl ?_
                  refine SW.istore (q := 100) (i := 4) dX1_joinCheapest_98 (by decide) rfl ?_
                  refine SW.iinc (q := 103) (v := _ + 1) dX1_joinCheapest_100 rfl rfl (by decide) rfl ?_
                  refine SW.goto (q := 25) dX1_joinCheapest_103 (by decide) ?_
                  exact SW.eq (by rw [lv1, nI_1]; rfl) rfl rfl (ih2 (b + 1) (by omega) (some (a, b, c)) _ (nj_take hr he cand (fun a0 b0 c0 e => Or.inl (hlt a0 b0 c0 e))))
                · cases r with
                  | none => exact absurd (fun a0 b0 c0 e => by cases e) hlt
                  | some w =>
                    obtain ⟨a0, b0, c0⟩ := w
                    have hge : c0 ≤ c := by
                      rcases Nat.lt_or_ge c c0 with z | z
                      · exact absurd (fun a1 b1 c1 e => by cases e; exact z) hlt
                      · exact z
                    have hs := hr.1
                    refine SW.iload (q := 27) (i := 6) dX1_joinCheapest_25 rfl rfl ?_
                    refine SW.aload_n (q := 28) (i := 1) dX1_joinCheapest_27 rfl rfl rfl ?_
                    refine SW.getI (q := 31) (i := 4) fX1_42 rfl rfl dX1_joinCheapest_28 rfl ?_
                    refine SW.icmp_ge (q := 34) (tgt := 106) dX1_joinCheapest_31 (by decide) rfl (fun c31 => absurd c31 ((by rw [pm]; exact nI_ge (by omega) (by omega)))) (fun _ => ?_)
                    refine SW.aload_n (q := 35) (i := 0) dX1_joinCheapest_34 rfl rfl rfl ?_
                    refine SW.aload_n (q := 36) (i := 1) dX1_joinCheapest_35 rfl rfl rfl ?_
                    refine SW.getR (q := 39) (i := 4) (j := 27) fX1_47 rfl rfl dX1_joinCheapest_36 rfl ?_
                    refine SW.iload (q := 41) (i := 5) dX1_joinCheapest_39 rfl rfl ?_
                    refine SW.cF (q := 44) (C_X3_atn (i := 27) (j := 53) (n := 6) rfl rfl (k := a) rfl (by omega)) vX1_50 (by decide) rfl rfl rfl rfl (Nat.le_of_ble_eq_true rfl) dX1_joinCheapest_41 rfl ?_
                    refine SW.iload (q := 46) (i := 6) dX1_joinCheapest_44 rfl rfl ?_
                    refine SW.cF (q := 49) (C_X1_costOf (p := pl a) (t := b) pa1 rfl (by omega) (by omega)) vX1_125 (by decide) rfl rfl rfl rfl (Nat.le_of_ble_eq_true rfl) dX1_joinCheapest_46 rfl ?_
                    refine SW.istore (q := 51) (i := 7) dX1_joinCheapest_49 (by decide) rfl ?_
                    refine SW.aload_n (q := 52) (i := 0) dX1_joinCheapest_51 rfl rfl rfl ?_
                    refine SW.getR (q := 55) (i := 5) (j := 30) fX1_23 rfl rfl dX1_joinCheapest_52 rfl ?_
                    refine SW.iload (q := 57) (i := 5) dX1_joinCheapest_55 rfl rfl ?_
                    refine SW.cF (q := 60) (C_X3_atn (i := 30) (j := 56) (n := 6) rfl rfl (k := a) rfl (by omega)) vX1_50 (by decide) rfl rfl rfl rfl (Nat.le_of_ble_eq_true rfl) dX1_joinCheapest_57 rfl ?_
                    refine SW.iconst (q := 61) (v := 1) dX1_joinCheapest_60 (by decide) rfl ?_
                    refine SW.icmp_ne (q := 64) (tgt := 100) dX1_joinCheapest_61 (by decide) rfl (fun c61 => absurd ((am.1 ma)) c61) (fun _ => ?_)
                    refine SW.aload_n (q := 65) (i := 0) dX1_joinCheapest_64 rfl rfl rfl ?_
                    refine SW.getR (q := 68) (i := 5) (j := 30) fX1_23 rfl rfl dX1_joinCheapest_65 rfl ?_
                    refine SW.iload (q := 70) (i := 6) dX1_joinCheapest_68 rfl rfl ?_
                    refine SW.cF (q := 73) (C_X3_atn (i := 30) (j := 56) (n := 6) rfl rfl (k := b) rfl (by omega)) vX1_50 (by decide) rfl rfl rfl rfl (Nat.le_of_ble_eq_true rfl) dX1_joinCheapest_70 rfl ?_
                    refine SW.if_ne (q := 76) (tgt := 100) dX1_joinCheapest_73 (by decide) rfl (fun c73 => absurd ((bm.2 mb)) c73) (fun _ => ?_)
                    refine SW.iload (q := 78) (i := 7) dX1_joinCheapest_76 rfl rfl ?_
                    refine SW.bipush (q := 80) (v := (-6)) dX1_joinCheapest_78 (by decide) rfl ?_
                    refine SW.icmp_eq (q := 83) (tgt := 100) dX1_joinCheapest_80 (by decide) rfl (fun c80 => absurd c80 ((by rw [lv1]; exact nI_n6 (by omega)))) (fun _ => ?_)
                    refine SW.iload (q := 85) (i := 7) dX1_joinCheapest_83 rfl rfl ?_
                    refine SW.iload (q := 87) (i := 4) dX1_joinCheapest_85 rfl rfl ?_
                    refine SW.icmp_ge (q := 90) (tgt := 100) dX1_joinCheapest_87 (by decide) rfl (fun _ => ?_) (fun c87 => absurd ((by rw [lv1]; exact nI_le (by omega) (by omega))) c87)
                    refine SW.iinc (q := 103) (v := _ + 1) dX1_joinCheapest_100 rfl rfl (by decide) rfl ?_
                    refine SW.goto (q := 25) dX1_joinCheapest_103 (by decide) ?_
                    exact SW.eq (by rw [nI_1]; rfl) rfl rfl (keep (nj_keep hr he cand (by unfold nj_le; omega)) _)
          · refine SW.iload (q := 27) (i := 6) dX1_joinCheapest_25 rfl rfl ?_
            refine SW.aload_n (q := 28) (i := 1) dX1_joinCheapest_27 rfl rfl rfl ?_
            refine SW.getI (q := 31) (i := 4) fX1_42 rfl rfl dX1_joinCheapest_28 rfl ?_
            refine SW.icmp_ge (q := 34) (tgt := 106) dX1_joinCheapest_31 (by decide) rfl (fun c31 => absurd c31 ((by rw [pm]; exact nI_ge (by omega) (by omega)))) (fun _ => ?_)
            refine SW.aload_n (q := 35) (i := 0) dX1_joinCheapest_34 rfl rfl rfl ?_
            refine SW.aload_n (q := 36) (i := 1) dX1_joinCheapest_35 rfl rfl rfl ?_
            refine SW.getR (q := 39) (i := 4) (j := 27) fX1_47 rfl rfl dX1_joinCheapest_36 rfl ?_
            refine SW.iload (q := 41) (i := 5) dX1_joinCheapest_39 rfl rfl ?_
            refine SW.cF (q := 44) (C_X3_atn (i := 27) (j := 53) (n := 6) rfl rfl (k := a) rfl (by omega)) vX1_50 (by decide) rfl rfl rfl rfl (Nat.le_of_ble_eq_true rfl) dX1_joinCheapest_41 rfl ?_
            refine SW.iload (q := 46) (i := 6) dX1_joinCheapest_44 rfl rfl ?_
            refine SW.cF (q := 49) (C_X1_costOf (p := pl a) (t := b) pa1 rfl (by omega) (by omega)) vX1_125 (by decide) rfl rfl rfl rfl (Nat.le_of_ble_eq_true rfl) dX1_joinCheapest_46 rfl ?_
            refine SW.istore (q := 51) (i := 7) dX1_joinCheapest_49 (by decide) rfl ?_
            refine SW.aload_n (q := 52) (i := 0) dX1_joinCheapest_51 rfl rfl rfl ?_
            refine SW.getR (q := 55) (i := 5) (j := 30) fX1_23 rfl rfl dX1_joinCheapest_52 rfl ?_
            refine SW.iload (q := 57) (i := 5) dX1_joinCheapest_55 rfl rfl ?_
            refine SW.cF (q := 60) (C_X3_atn (i := 30) (j := 56) (n := 6) rfl rfl (k := a) rfl (by omega)) vX1_50 (by decide) rfl rfl rfl rfl (Nat.le_of_ble_eq_true rfl) dX1_joinCheapest_57 rfl ?_
            refine SW.iconst (q := 61) (v := 1) dX1_joinCheapest_60 (by decide) rfl ?_
            refine SW.icmp_ne (q := 64) (tgt := 100) dX1_joinCheapest_61 (by decide) rfl (fun _ => ?_) (fun c61 => absurd c61 ((by rw [am.2 ma]; decide)))
            refine SW.iinc (q := 103) (v := _ + 1) dX1_joinCheapest_100 rfl rfl (by decide) rfl ?_
            refine SW.goto (q := 25) dX1_joinCheapest_103 (by decide) ?_
            exact SW.eq (by rw [nI_1]; rfl) rfl rfl (keep (nj_no hr he (fun c z => ma z.2.2.1)) _)
      refine SW.iload (q := 15) (i := 5) dX1_joinCheapest_13 rfl rfl ?_
      refine SW.aload_n (q := 16) (i := 1) dX1_joinCheapest_15 rfl rfl rfl ?_
      refine SW.getI (q := 19) (i := 4) fX1_42 rfl rfl dX1_joinCheapest_16 rfl ?_
      refine SW.icmp_ge (q := 22) (tgt := 112) dX1_joinCheapest_19 (by decide) rfl (fun c19 => absurd c19 ((by rw [pm]; exact nI_ge (by omega) (by omega)))) (fun _ => ?_)
      refine SW.iconst (q := 23) (v := 0) dX1_joinCheapest_22 (by decide) rfl ?_
      refine SW.istore (q := 25) (i := 6) dX1_joinCheapest_23 (by decide) rfl ?_
      exact inner m 0 (by omega) r _ (nj_ext hr (fun x y _ _ => by omega))
  refine SW.bipush (q := 2) (v := (-6)) dX1_joinCheapest_0 (by decide) rfl ?_
  refine SW.istore_n (q := 3) (i := 2) dX1_joinCheapest_2 rfl (by decide) rfl ?_
  refine SW.bipush (q := 5) (v := (-6)) dX1_joinCheapest_3 (by decide) rfl ?_
  refine SW.istore_n (q := 6) (i := 3) dX1_joinCheapest_5 rfl (by decide) rfl ?_
  refine SW.ldc (q := 8) kX1_131 dX1_joinCheapest_6 rfl ?_
  refine SW.istore (q := 10) (i := 4) dX1_joinCheapest_8 (by decide) rfl ?_
  refine SW.iconst (q := 11) (v := 0) dX1_joinCheapest_10 (by decide) rfl ?_
  refine SW.istore (q := 13) (i := 5) dX1_joinCheapest_11 (by decide) rfl ?_
  exact outer m 0 (by omega) none _ _ (fun a b c z => absurd z (Nat.not_lt_zero _))
theorem C_X1_layRoad (hG : nk_G n h kd br σ) (ht6 : t < 6) (hbd : ∀ v c, d v = some c → c ≤ 300000) (hl : nt_lab n t d σ) (hx : x = nI p) (hp : p < n * n) (hy : y = nI t) :
    sw_Mv X 3 mX1_layRoad [.ref (sw_ad X 5), .ref (sw_ad X 1), .ref (sw_ad X 2), .int x, .int y] σ (fun u => fr_ [55] σ u ∧ u 55 = nt_ly (fun a => nt_nx n h kd br d a 4) (n * n) (some p) (σ 55)) := by
  subst hx; subst hy
  have n24 : n ≤ 24 := hG.1.1.2.1
  have h576 := gr_576 n24
  have hpl : σ 1 2 = nI (n * n) := hG.1.1.2.2.2.1
  refine sw_ME.ofF (by decide +kernel) rfl (Nat.le_of_ble_eq_true rfl) rfl ?_
  have loop : ∀ (k i : Nat), i + k = n * n → ∀ (o : Option Nat) (τ : sw_Sg), (∀ b, o = some b → b < n * n) → fr_ [55] σ τ → nt_ly (fun a => nt_nx n h kd br d a 4) k o (τ 55) = nt_ly (fun a => nt_nx n h kd br d a 4) (n * n) (some p) (σ 55) →
      SW X 3 mX1_layRoad sw_E0 (sw_Rv (fun u => fr_ [55] σ u ∧ u 55 = nt_ly (fun a => nt_nx n h kd br d a 4) (n * n) (some p) (σ 55))) 6 [.ref (sw_ad X 5), .ref (sw_ad X 1), .ref (sw_ad X 2), .int (nI p), .int (nI t), .int (gr_v o), .int (nI i)] [] τ := by
    intro k
    induction k with
    | zero =>
      intro i hi o τ ho hf he
      obtain rfl : i = n * n := by omega
      refine SW.iload (q := 8) (i := 6) dX1_layRoad_6 rfl rfl ?_
      refine SW.aload_n (q := 9) (i := 1) dX1_layRoad_8 rfl rfl rfl ?_
      refine SW.getI (q := 12) (i := 1) fX1_73 rfl rfl dX1_layRoad_9 rfl ?_
      refine SW.icmp_ge (q := 15) (tgt := 50) dX1_layRoad_12 (by decide) rfl (fun _ => ?_) (fun c12 => absurd ((by rw [hf 1 (by decide), hpl]; exact Int32.le_refl _)) c12)
      refine SW.vretR rfl dX1_layRoad_50 ?_
      exact ⟨hf, he⟩
    | succ k ih =>
      intro i hi o τ ho hf he
      cases o with
      | none =>
        refine SW.iload (q := 8) (i := 6) dX1_layRoad_6 rfl rfl ?_
        refine SW.aload_n (q := 9) (i := 1) dX1_layRoad_8 rfl rfl rfl ?_
        refine SW.getI (q := 12) (i := 1) fX1_73 rfl rfl dX1_layRoad_9 rfl ?_
        refine SW.icmp_ge (q := 15) (tgt := 50) dX1_layRoad_12 (by decide) rfl (fun c12 => absurd c12 ((by rw [hf 1 (by decide), hpl]; exact nI_ge (by omega) (by omega)))) (fun _ => ?_)
        refine SW.iload (q := 17) (i := 5) dX1_layRoad_15 rfl rfl ?_
        refine SW.bipush (q := 19) (v := (-6)) dX1_layRoad_17 (by decide) rfl ?_
        refine SW.icmp_eq (q := 22) (tgt := 50) dX1_layRoad_19 (by decide) rfl (fun _ => ?_) (fun c19 => absurd (rfl) c19)
        refine SW.vretR rfl dX1_layRoad_50 ?_
        exact ⟨hf, by rw [← he]; rfl⟩
      | some b =>
        have hb := ho b rfl
        have bi : gr_v (some b) = nI b := rfl
        have hf2 : fr_ [55] σ (sw_up τ 55 b (τ 55 b + 1)) := fr_up hf (by decide)
        refine SW.iload (q := 8) (i := 6) dX1_layRoad_6 rfl rfl ?_
        refine SW.aload_n (q := 9) (i := 1) dX1_layRoad_8 rfl rfl rfl ?_
        refine SW.getI (q := 12) (i := 1) fX1_73 rfl rfl dX1_layRoad_9 rfl ?_
        refine SW.icmp_ge (q := 15) (tgt := 50) dX1_layRoad_12 (by decide) rfl (fun c12 => absurd c12 ((by rw [hf 1 (by decide), hpl]; exact nI_ge (by omega) (by omega)))) (fun _ => ?_)
        refine SW.iload (q := 17) (i := 5) dX1_layRoad_15 rfl rfl ?_
        refine SW.bipush (q := 19) (v := (-6)) dX1_layRoad_17 (by decide) rfl ?_
        refine SW.icmp_eq (q := 22) (tgt := 50) dX1_layRoad_19 (by decide) rfl (fun c19 => absurd c19 ((by rw [bi]; exact nI_n6 (by omega)))) (fun _ => ?_)
        refine SW.aload_n (q := 23) (i := 0) dX1_layRoad_22 rfl rfl rfl ?_
        refine SW.getR (q := 26) (i := 5) (j := 29) fX1_20 rfl rfl dX1_layRoad_23 rfl ?_
        refine SW.iload (q := 28) (i := 5) dX1_layRoad_26 rfl rfl ?_
        refine SW.iconst (q := 29) (v := 1) dX1_layRoad_28 (by decide) rfl ?_
        refine SW.cG (q := 32) (C_X3_addn (i := 29) (j := 55) (n := 576) rfl rfl (k := b) bi (by omega)) vX1_132 (by decide) rfl rfl rfl rfl (Nat.le_of_ble_eq_true rfl) dX1_layRoad_29 rfl ?_
        refine SW.aload_n (q := 33) (i := 0) dX1_layRoad_32 rfl rfl rfl ?_
        refine SW.aload_n (q := 34) (i := 1) dX1_layRoad_33 rfl rfl rfl ?_
        refine SW.aload_n (q := 35) (i := 2) dX1_layRoad_34 rfl rfl rfl ?_
        refine SW.iload (q := 37) (i := 5) dX1_layRoad_35 rfl rfl ?_
        refine SW.iload (q := 39) (i := 4) dX1_layRoad_37 rfl rfl ?_
        refine SW.cF (q := 42) (C_X1_nextPlace (hG.fr hf2 (by decide) (by decide) (by decide) (by decide) (by decide) (by decide)) ht6 hbd (fun v hv => by rw [hf2 54 (by decide)]; exact hl v hv) bi hb rfl) vX1_128 (by decide) rfl rfl rfl rfl (Nat.le_of_ble_eq_true rfl) dX1_layRoad_39 rfl ?_
        refine SW.istore (q := 44) (i := 5) dX1_layRoad_42 (by decide) rfl ?_
        refine SW.iinc (q := 47) (v := _ + 1) dX1_layRoad_44 rfl rfl (by decide) rfl ?_
        refine SW.goto (q := 6) dX1_layRoad_47 (by decide) ?_
        refine SW.eq (by rw [nI_1]; rfl) rfl rfl (ih (i + 1) (by omega) _ _ (fun w hw => nx_lt b w hb hw) hf2 ?_)
        rw [← he, sw_up_i]; rfl
  refine SW.iload_n (q := 1) (i := 3) dX1_layRoad_0 rfl rfl rfl ?_
  refine SW.istore (q := 3) (i := 5) dX1_layRoad_1 (by decide) rfl ?_
  refine SW.iconst (q := 4) (v := 0) dX1_layRoad_3 (by decide) rfl ?_
  refine SW.istore (q := 6) (i := 6) dX1_layRoad_4 (by decide) rfl ?_
  exact loop (n * n) 0 (by omega) (some p) σ (fun b hb => by cases hb; exact hp) fr_rf rfl
end JOIN
