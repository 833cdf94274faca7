/-! WATER, as mathematics: in which order places are taken, at which level, running where; there is one such order -/
def wt_out (n : Nat) (h : Nat → Nat) (sea q : Nat) : Bool := decide (h q < sea) || gr_rim n q
def wt_tk (T : Nat → Nat) (k q : Nat) : Prop := ∃ i, i < k ∧ T i = q
def wt_mx (a b : Nat) : Nat := if a < b then b else a
def wt_low (n : Nat) (T lv od : Nat → Nat) (k p r : Nat) : Prop :=
  (∃ e, e < 4 ∧ gr_nb n p e = some r) ∧ wt_tk T k r ∧ ∀ e r', e < 4 → gr_nb n p e = some r' → wt_tk T k r' → lv r < lv r' ∨ lv r = lv r' ∧ od r ≤ od r'
def wt_step (n : Nat) (h : Nat → Nat) (sea : Nat) (T lv od : Nat → Nat) (D : Nat → Option Nat) (j : Nat) : Prop :=
  (wt_out n h sea (T j) = true ∧ (∀ q, q < n * n → wt_out n h sea q = true → q < T j → wt_tk T j q) ∧ lv (T j) = (if h (T j) < sea then sea else h (T j)) ∧ D (T j) = none) ∨
  ((∀ q, q < n * n → wt_out n h sea q = true → wt_tk T j q) ∧ ∃ r, wt_low n T lv od j (T j) r ∧ lv (T j) = wt_mx (lv r) (h (T j)) ∧ D (T j) = some r ∧
    ∀ p' r', p' < n * n → ¬ wt_tk T j p' → wt_low n T lv od j p' r' → wt_mx (lv r) (h (T j)) < wt_mx (lv r') (h p') ∨ wt_mx (lv r) (h (T j)) = wt_mx (lv r') (h p') ∧ T j ≤ p')
def wt_ok (n : Nat) (h : Nat → Nat) (sea K : Nat) (T lv od : Nat → Nat) (D : Nat → Option Nat) : Prop :=
  (∀ j, j < K → T j < n * n ∧ od (T j) = j) ∧ ∀ j, j < K → wt_step n h sea T lv od D j
theorem wt_tk_mono {T : Nat → Nat} {k k' q : Nat} (h : wt_tk T k q) (hk : k ≤ k') : wt_tk T k' q := by
  obtain ⟨i, h1, h2⟩ := h
  exact ⟨i, by omega, h2⟩
theorem wt_inj {T od : Nat → Nat} {N K : Nat} (h : ∀ j, j < K → T j < N ∧ od (T j) = j) {i j : Nat} (hi : i < K) (hj : j < K) (e : T i = T j) : i = j := by
  rw [← (h i hi).2, ← (h j hj).2, e]
theorem wt_new {T od : Nat → Nat} {N K : Nat} (h : ∀ j, j < K → T j < N ∧ od (T j) = j) {j : Nat} (hj : j < K) : ¬ wt_tk T j (T j) := by
  rintro ⟨i, h1, h2⟩
  have := wt_inj h (by omega) hj h2
  omega
theorem wt_low_congr {n : Nat} {T lv od T' lv' od' : Nat → Nat} {k p r : Nat} (hT : ∀ i, i < k → T i = T' i) (hl : ∀ i, i < k → lv (T i) = lv' (T i)) (ho : ∀ i, i < k → od (T i) = od' (T i)) (h : wt_low n T lv od k p r) : wt_low n T' lv' od' k p r := by
  obtain ⟨h1, ⟨i, i1, i2⟩, h3⟩ := h
  refine ⟨h1, ⟨i, i1, by rw [← hT i i1]; exact i2⟩, fun e r' he hr ht => ?_⟩
  obtain ⟨i', j1, j2⟩ := ht
  rw [← hT i' j1] at j2
  have := h3 e r' he hr ⟨i', j1, j2⟩
  rw [← i2, ← j2] at this
  rw [← i2, ← j2, ← hl i i1, ← hl i' j1, ← ho i i1, ← ho i' j1]
  exact this
theorem wt_low_one {n : Nat} {T lv od : Nat → Nat} {K k p r r' : Nat} {N : Nat} (hI : ∀ j, j < K → T j < N ∧ od (T j) = j) (hk : k ≤ K) (h : wt_low n T lv od k p r) (h' : wt_low n T lv od k p r') : r = r' := by
  obtain ⟨⟨e, e1, e2⟩, t1, m1⟩ := h
  obtain ⟨⟨e', e1', e2'⟩, t1', m1'⟩ := h'
  have a := m1 e' r' e1' e2' t1'
  have b := m1' e r e1 e2 t1
  obtain ⟨i, i1, i2⟩ := t1
  obtain ⟨i', i1', i2'⟩ := t1'
  have c : od r = od r' := by omega
  rw [← i2, ← i2', (hI i (by omega)).2, (hI i' (by omega)).2] at c
  rw [← i2, ← i2', c]
theorem wt_one {n : Nat} {h : Nat → Nat} {sea K : Nat} {T lv od T' lv' od' : Nat → Nat} {D D' : Nat → Option Nat} (a : wt_ok n h sea K T lv od D) (b : wt_ok n h sea K T' lv' od' D') :
    ∀ j, j < K → T j = T' j ∧ lv (T j) = lv' (T j) ∧ D (T j) = D' (T j) := by
  intro j
  induction j using Nat.strongRecOn with
  | ind j ih =>
    intro hj
    obtain ⟨a1, a2⟩ := a
    obtain ⟨b1, b2⟩ := b
    have eT : ∀ i, i < j → T i = T' i := fun i hi => (ih i hi (by omega)).1
    have el : ∀ i, i < j → lv (T i) = lv' (T i) := fun i hi => (ih i hi (by omega)).2.1
    have eo : ∀ i, i < j → od (T i) = od' (T i) := fun i hi => by
      rw [(a1 i (by omega)).2, eT i hi, (b1 i (by omega)).2]
    have tk : ∀ q, wt_tk T j q ↔ wt_tk T' j q := fun q => ⟨fun ⟨i, i1, i2⟩ => ⟨i, i1, by rw [← eT i i1]; exact i2⟩, fun ⟨i, i1, i2⟩ => ⟨i, i1, by rw [eT i i1]; exact i2⟩⟩
    have nA := wt_new a1 hj
    have nB := wt_new b1 hj
    have pA := (a1 j hj).1
    have pB := (b1 j hj).1
    rcases a2 j hj with ⟨s1, s2, s3, s4⟩ | ⟨s1, r, s2, s3, s4, s5⟩
    · rcases b2 j hj with ⟨u1, u2, u3, u4⟩ | ⟨u1, r', u2, u3, u4, u5⟩
      · have e : T j = T' j := by
          rcases Nat.lt_trichotomy (T j) (T' j) with q | q | q
          · exact absurd ((tk _).mpr (u2 _ pA s1 q)) nA
          · exact q
          · exact absurd ((tk _).mp (s2 _ pB u1 q)) nB
        exact ⟨e, by rw [s3, e, u3], by rw [s4, e, u4]⟩
      · exact absurd ((tk _).mpr (u1 _ pA s1)) nA
    · rcases b2 j hj with ⟨u1, u2, u3, u4⟩ | ⟨u1, r', u2, u3, u4, u5⟩
      · exact absurd ((tk _).mp (s1 _ pB u1)) nB
      · have q1 := s5 (T' j) r' pB (fun q => nB ((tk _).mp q)) (wt_low_congr (fun i hi => (eT i hi).symm) (fun i hi => by rw [← eT i hi, el i hi]) (fun i hi => by rw [← eT i hi, eo i hi]) u2)
        have q2 := u5 (T j) r pA (fun q => nA ((tk _).mpr q)) (wt_low_congr eT el eo s2)
        have lr : lv r = lv' r := by
          obtain ⟨-, ⟨i, i1, i2⟩, -⟩ := s2
          rw [← i2]; exact el i i1
        have lr' : lv r' = lv' r' := by
          obtain ⟨-, ⟨i, i1, i2⟩, -⟩ := u2
          rw [← i2, ← eT i i1]; exact el i i1
        rw [lr'] at q1
        rw [← lr] at q2
        have e : T j = T' j := by omega
        have e2 : r = r' := by
          rw [← e] at u2
          exact wt_low_one b1 (Nat.le_of_lt hj) (wt_low_congr eT el eo s2) u2
        subst e2
        exact ⟨e, by rw [s3, e, u3, lr], by rw [s4, e, u4]⟩
/-- one more place is taken -/
theorem wt_snoc {n : Nat} {h : Nat → Nat} {sea K p l : Nat} {T lv od : Nat → Nat} {D : Nat → Option Nat} {r : Option Nat} (a : wt_ok n h sea K T lv od D) (hp : p < n * n) (hn : ¬ wt_tk T K p)
    (hs : (wt_out n h sea p = true ∧ (∀ q, q < n * n → wt_out n h sea q = true → q < p → wt_tk T K q) ∧ l = (if h p < sea then sea else h p) ∧ r = none) ∨
      ((∀ q, q < n * n → wt_out n h sea q = true → wt_tk T K q) ∧ ∃ r0, wt_low n T lv od K p r0 ∧ l = wt_mx (lv r0) (h p) ∧ r = some r0 ∧
        ∀ p' r', p' < n * n → ¬ wt_tk T K p' → wt_low n T lv od K p' r' → wt_mx (lv r0) (h p) < wt_mx (lv r') (h p') ∨ wt_mx (lv r0) (h p) = wt_mx (lv r') (h p') ∧ p ≤ p')) :
    wt_ok n h sea (K + 1) (va_up T K p) (va_up lv p l) (va_up od p K) (va_up D p r) := by
  obtain ⟨a1, a2⟩ := a
  have up_i : ∀ {α : Type} (f : Nat → α) (k : Nat) (v : α), va_up f k v k = v := fun f k v => by simp [va_up]
  have up_o : ∀ {α : Type} (f : Nat → α) (k j : Nat) (v : α), j ≠ k → va_up f k v j = f j := fun f k j v h => by simp [va_up, h]
  have eT : ∀ i, i < K → va_up T K p i = T i := fun i hi => up_o _ _ _ _ (by omega)
  have nT : ∀ i, i < K → T i ≠ p := fun i hi e => hn ⟨i, hi, e⟩
  have tk : ∀ j, j ≤ K → ∀ q, wt_tk (va_up T K p) j q ↔ wt_tk T j q := fun j hj q => ⟨fun ⟨i, i1, i2⟩ => ⟨i, i1, by rw [← eT i (by omega)]; exact i2⟩, fun ⟨i, i1, i2⟩ => ⟨i, i1, by rw [eT i (by omega)]; exact i2⟩⟩
  have lo : ∀ j, j ≤ K → ∀ p' r', wt_low n (va_up T K p) (va_up lv p l) (va_up od p K) j p' r' ↔ wt_low n T lv od j p' r' := by
    intro j hj p' r'
    constructor
    · exact wt_low_congr (fun i hi => eT i (by omega)) (fun i hi => by rw [eT i (by omega), up_o _ _ _ _ (nT i (by omega))]) (fun i hi => by rw [eT i (by omega), up_o _ _ _ _ (nT i (by omega))])
    · exact wt_low_congr (fun i hi => (eT i (by omega)).symm) (fun i hi => by rw [up_o _ _ _ _ (nT i (by omega))]) (fun i hi => by rw [up_o _ _ _ _ (nT i (by omega))])
  have lvr : ∀ j, j ≤ K → ∀ p' r', wt_low n T lv od j p' r' → va_up lv p l r' = lv r' := by
    rintro j hj p' r' ⟨-, ⟨i, i1, i2⟩, -⟩
    rw [← i2]
    exact up_o _ _ _ _ (nT i (by omega))
  refine ⟨fun j hj => ?_, fun j hj => ?_⟩
  · by_cases e : j = K
    · subst e; rw [up_i, up_i]; exact ⟨hp, rfl⟩
    · rw [eT j (by omega), up_o _ _ _ _ (nT j (by omega))]; exact a1 j (by omega)
  · unfold wt_step
    by_cases e : j = K
    · subst e
      rw [up_i, up_i, up_i]
      rcases hs with ⟨s1, s2, s3, s4⟩ | ⟨s1, r0, s2, s3, s4, s5⟩
      · exact Or.inl ⟨s1, fun q q1 q2 q3 => (tk j (Nat.le_refl _) q).mpr (s2 q q1 q2 q3), s3, s4⟩
      · refine Or.inr ⟨fun q q1 q2 => (tk j (Nat.le_refl _) q).mpr (s1 q q1 q2), r0, (lo j (Nat.le_refl _) _ _).mpr s2, ?_, s4, fun p' r' p1 p2 p3 => ?_⟩
        · rw [lvr j (Nat.le_refl _) _ _ s2]; exact s3
        · have p3' := (lo j (Nat.le_refl _) _ _).mp p3
          rw [lvr j (Nat.le_refl _) _ _ s2, lvr j (Nat.le_refl _) _ _ p3']
          exact s5 p' r' p1 (fun q => p2 ((tk j (Nat.le_refl _) _).mpr q)) p3'
    · have hj' : j < K := by omega
      rw [eT j hj', up_o lv _ _ _ (nT j hj'), up_o D _ _ _ (nT j hj')]
      rcases a2 j hj' with ⟨s1, s2, s3, s4⟩ | ⟨s1, r0, s2, s3, s4, s5⟩
      · exact Or.inl ⟨s1, fun q q1 q2 q3 => (tk j (by omega) q).mpr (s2 q q1 q2 q3), s3, s4⟩
      · refine Or.inr ⟨fun q q1 q2 => (tk j (by omega) q).mpr (s1 q q1 q2), r0, (lo j (by omega) _ _).mpr s2, ?_, s4, fun p' r' p1 p2 p3 => ?_⟩
        · rw [lvr j (by omega) _ _ s2]; exact s3
        · have p3' := (lo j (by omega) _ _).mp p3
          rw [lvr j (by omega) _ _ s2, lvr j (by omega) _ _ p3']
          exact s5 p' r' p1 (fun q => p2 ((tk j (by omega) _).mpr q)) p3'
/-- as many places as there are, none twice: all of them -/
theorem wt_pig : ∀ (N : Nat) (f : Nat → Nat), (∀ i, i < N → f i < N) → (∀ i j, i < N → j < N → f i = f j → i = j) → ∀ p, p < N → ∃ i, i < N ∧ f i = p := by
  intro N
  induction N with
  | zero => intro f _ _ p hp; omega
  | succ N ih =>
    intro f h1 h2 p hp
    have hg : ∀ p, p < N → ∃ i, i < N ∧ (if f i = N then f N else f i) = p := by
      apply ih (fun i => if f i = N then f N else f i)
      · intro i hi
        show (if f i = N then f N else f i) < N
        split
        · rename_i e
          have := h1 N (by omega)
          have : f N ≠ N := fun q => by
            have := h2 i N (by omega) (by omega) (by rw [e, q])
            omega
          omega
        · have := h1 i (by omega)
          omega
      · intro i j hi hj e
        have e : (if f i = N then f N else f i) = (if f j = N then f N else f j) := e
        by_cases a : f i = N
        · by_cases b : f j = N
          · exact h2 i j (by omega) (by omega) (by rw [a, b])
          · rw [if_pos a, if_neg b] at e
            have := h2 N j (by omega) (by omega) e
            omega
        · by_cases b : f j = N
          · rw [if_neg a, if_pos b] at e
            have := h2 i N (by omega) (by omega) e
            omega
          · rw [if_neg a, if_neg b] at e
            exact h2 i j (by omega) (by omega) e
    by_cases e : p = N
    · subst e
      by_cases q : f p = p
      · exact ⟨p, by omega, q⟩
      · have hq := h1 p (by omega)
        obtain ⟨i, i1, i2⟩ := hg (f p) (by omega)
        by_cases z : f i = p
        · exact ⟨i, by omega, z⟩
        · rw [if_neg z] at i2
          have := h2 i p (by omega) (by omega) i2
          omega
    · obtain ⟨i, i1, i2⟩ := hg p (by omega)
      by_cases z : f i = N
      · rw [if_pos z] at i2
        exact ⟨N, by omega, i2⟩
      · rw [if_neg z] at i2
        exact ⟨i, by omega, i2⟩
theorem wt_all {n : Nat} {h : Nat → Nat} {sea : Nat} {T lv od : Nat → Nat} {D : Nat → Option Nat} (a : wt_ok n h sea (n * n) T lv od D) : ∀ p, p < n * n → ∃ i, i < n * n ∧ T i = p :=
  wt_pig _ T (fun i hi => (a.1 i hi).1) (fun _ _ hi hj e => wt_inj a.1 hi hj e)
theorem gr_nb1 {n p : Nat} (hn : 0 < n) (h : 0 < p % n) : gr_nb n p 1 = some (p - 1) ∧ (p - 1) % n = p % n - 1 := by
  refine ⟨by rw [gr_nb, if_pos h], ?_⟩
  have h1 := gr_pp (n := n) (p := p)
  have h2 := Nat.mod_lt p hn
  have h3 : p - 1 = n * (p / n) + (p % n - 1) := by omega
  rw [h3]
  exact (gr_xy (by omega)).1
/-- while places are left, one of them lies beside a taken one -/
theorem wt_front {n : Nat} {tk : Nat → Prop} (hn : 0 < n) (hr : ∀ q, q < n * n → gr_rim n q = true → tk q) : ∀ p, p < n * n → ¬ tk p → ∃ p' e r, p' < n * n ∧ ¬ tk p' ∧ e < 4 ∧ gr_nb n p' e = some r ∧ tk r := by
  have key : ∀ m p, p % n = m → p < n * n → ¬ tk p → ∃ p' e r, p' < n * n ∧ ¬ tk p' ∧ e < 4 ∧ gr_nb n p' e = some r ∧ tk r := by
    intro m
    induction m with
    | zero =>
      intro p h1 h2 h3
      exact absurd (hr p h2 (by simp [gr_rim, h1])) h3
    | succ m ih =>
      intro p h1 h2 h3
      by_cases h4 : tk (p - 1)
      · exact ⟨p, 1, p - 1, h2, h3, by decide, (gr_nb1 hn (by omega)).1, h4⟩
      · exact ih (p - 1) (by rw [(gr_nb1 hn (by omega)).2, h1]; rfl) (by omega) h4
  exact fun p => key (p % n) p rfl
