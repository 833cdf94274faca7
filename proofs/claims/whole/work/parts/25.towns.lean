/-! TOWNS: worth, distance, the best place, one town after another -/
def tw_river (n : Nat) (kd fl : Nat → Int32) (p : Nat) : Nat → Int32
  | 0 => 0
  | e + 1 => match gr_nb n p e with
    | none => tw_river n kd fl p e
    | some q => if kd q = 4 then sw_max (tw_river n kd fl p e) (fl q) else tw_river n kd fl p e
def tw_worth (n : Nat) (ht kd fl : Nat → Int32) (p : Nat) : Int32 := if kd p = 8 then 500 - ht p + sw_min (tw_river n kd fl p 4) 60 else -6
theorem tw_river_congr {n p : Nat} {kd fl kd' fl' : Nat → Int32} (hp : p < n * n) (h : ∀ q, q < n * n → kd q = kd' q ∧ fl q = fl' q) : ∀ e, tw_river n kd fl p e = tw_river n kd' fl' p e := by
  intro e
  induction e with
  | zero => rfl
  | succ e ih =>
    simp only [tw_river, ih]
    cases hq : gr_nb n p e with
    | none => rfl
    | some q =>
      obtain ⟨h1, h2⟩ := h q (gr_nb_lt hp hq).1
      simp only [h1, h2]
theorem tw_worth_congr {n p : Nat} {ht kd fl ht' kd' fl' : Nat → Int32} (hp : p < n * n) (h : ∀ q, q < n * n → ht q = ht' q ∧ kd q = kd' q ∧ fl q = fl' q) : tw_worth n ht kd fl p = tw_worth n ht' kd' fl' p := by
  obtain ⟨h1, h2, h3⟩ := h p hp
  simp only [tw_worth, h1, h2, tw_river_congr hp (fun q hq => (h q hq).2)]
theorem tw_river_pos {n p : Nat} {kd fl : Nat → Int32} : ∀ e, ¬ tw_river n kd fl p e < 0 := by
  intro e
  induction e with
  | zero => exact (by decide : ¬ (0 : Int32) < 0)
  | succ e ih =>
    simp only [tw_river]
    split
    · exact ih
    · split
      · unfold sw_max
        split
        · rename_i a
          exact fun b => ih (Int32.lt_trans a b)
        · exact ih
      · exact ih
theorem tw_pos {n p h : Nat} {ht kd fl : Nat → Int32} (hk : kd p = 8) (hh : ht p = nI h) (h4 : h ≤ 400) : ∃ w : Nat, 100 ≤ w ∧ w ≤ 560 ∧ tw_worth n ht kd fl p = nI w := by
  have h1 : ∃ k : Nat, k ≤ 60 ∧ sw_min (tw_river n kd fl p 4) 60 = nI k := by
    unfold sw_min
    split
    · exact ⟨60, Nat.le_refl _, rfl⟩
    · rename_i a
      exact nI_of2 (M := 60) (n := 60) (by decide) (tw_river_pos 4) (Int32.not_lt.mp a)
  obtain ⟨k, k6, e⟩ := h1
  refine ⟨500 - h + k, by omega, by omega, ?_⟩
  rw [tw_worth, if_pos hk, e, hh, show (500 : Int32) = nI 500 from rfl, pk_sub (by omega), nI_add]
theorem tw_ne {n p h : Nat} {ht kd fl : Nat → Int32} (hh : ht p = nI h) (h4 : h ≤ 400) : tw_worth n ht kd fl p = -6 ↔ ¬ kd p = 8 := by
  constructor
  · intro e hk
    obtain ⟨w, w1, w2, w3⟩ := tw_pos (n := n) (fl := fl) hk hh h4
    rw [w3] at e
    exact nI_n6 (by omega) e
  · intro hk
    rw [tw_worth, if_neg hk]
def tw_far (n g : Nat) (L : List Nat) (p : Nat) : Bool := L.all fun q => decide (g ≤ gr_dist n p q)
theorem tw_far_t {n g p : Nat} {L : List Nat} (h : ∀ i q : Nat, L[i]? = some q → g ≤ gr_dist n p q) : tw_far n g L p = true := by
  refine List.all_eq_true.mpr (fun q hq => decide_eq_true ?_)
  obtain ⟨i, hi⟩ := List.getElem?_of_mem hq
  exact h i q hi
theorem tw_far_f {n g p i q : Nat} {L : List Nat} (h : L[i]? = some q) (hd : ¬ g ≤ gr_dist n p q) : tw_far n g L p = false := by
  refine Bool.eq_false_iff.mpr (fun ht => hd ?_)
  exact of_decide_eq_true (List.all_eq_true.mp ht q (List.mem_of_getElem? h))
def tw_best (W : Nat → Int32) (can : Nat → Bool) : Nat → Option Nat
  | 0 => none
  | k + 1 => match tw_best W can k with
    | none => if can k = true then some k else none
    | some b => if can k = true ∧ W b < W k then some k else some b
def tw_next (n g : Nat) (W : Nat → Int32) (L : List Nat) : Option Nat := tw_best W (fun p => decide (¬ W p = -6) && tw_far n g L p) (n * n)
def tw_run (n g : Nat) (W : Nat → Int32) : Nat → List Nat → List Nat
  | 0, L => L
  | k + 1, L => match tw_next n g W L with
    | none => L
    | some b => tw_run n g W k (L ++ [b])
theorem tw_best_lt {W : Nat → Int32} {can : Nat → Bool} : ∀ k b, tw_best W can k = some b → b < k ∧ can b = true := by
  intro k
  induction k with
  | zero => intro b h; cases h
  | succ k ih =>
    intro b h
    simp only [tw_best] at h
    cases hb : tw_best W can k with
    | none =>
      rw [hb] at h
      simp only at h
      split at h
      · rename_i a; cases h; exact ⟨by omega, a⟩
      · cases h
    | some b' =>
      rw [hb] at h
      simp only at h
      split at h
      · rename_i a; cases h; exact ⟨by omega, a.1⟩
      · cases h; obtain ⟨c1, c2⟩ := ih _ hb; exact ⟨by omega, c2⟩
theorem tw_best_congr {W W' : Nat → Int32} {can can' : Nat → Bool} : ∀ k, (∀ j, j < k → W j = W' j ∧ can j = can' j) → tw_best W can k = tw_best W' can' k := by
  intro k
  induction k with
  | zero => intro _; rfl
  | succ k ih =>
    intro h
    have e := ih (fun j hj => h j (by omega))
    obtain ⟨h1, h2⟩ := h k (by omega)
    simp only [tw_best, e, h1, h2]
    cases hb : tw_best W' can' k with
    | none => rfl
    | some b =>
      have := (h b (by have := (tw_best_lt k b hb).1; omega)).1
      simp only [this]
theorem tw_next_congr {n g : Nat} {W W' : Nat → Int32} (h : ∀ p, p < n * n → W p = W' p) (L : List Nat) : tw_next n g W L = tw_next n g W' L := tw_best_congr _ (fun j hj => ⟨h j hj, by rw [h j hj]⟩)
theorem tw_run_congr {n g : Nat} {W W' : Nat → Int32} (h : ∀ p, p < n * n → W p = W' p) : ∀ k L, tw_run n g W k L = tw_run n g W' k L := by
  intro k
  induction k with
  | zero => intro L; rfl
  | succ k ih => intro L; simp only [tw_run, tw_next_congr h, ih]
theorem tw_run_len {n g : Nat} {W : Nat → Int32} : ∀ k L, (tw_run n g W k L).length ≤ L.length + k := by
  intro k
  induction k with
  | zero => intro L; exact Nat.le_refl _
  | succ k ih =>
    intro L
    simp only [tw_run]
    split
    · omega
    · rename_i b _
      have := ih (L ++ [b])
      rw [List.length_append, List.length_singleton] at this
      omega
/-- what is known of a row of towns: places, none twice, so far apart, each worth something -/
def tw_ok (n g : Nat) (W : Nat → Int32) (L : List Nat) : Prop := (∀ i q : Nat, L[i]? = some q → q < n * n ∧ ¬ W q = -6) ∧ ∀ i j p q : Nat, i < j → L[i]? = some p → L[j]? = some q → g ≤ gr_dist n q p
theorem tw_run_ok {n g : Nat} {W : Nat → Int32} : ∀ k L, tw_ok n g W L → tw_ok n g W (tw_run n g W k L) := by
  intro k
  induction k with
  | zero => intro L h; exact h
  | succ k ih =>
    intro L h
    simp only [tw_run]
    cases hb : tw_next n g W L with
    | none => exact h
    | some b =>
      obtain ⟨b1, b2⟩ := tw_best_lt _ _ hb
      simp only [Bool.and_eq_true] at b2
      have b3 := of_decide_eq_true b2.1
      refine ih _ ⟨fun i q hi => ?_, fun i j p q hij hp hq => ?_⟩
      · rw [List.getElem?_append] at hi
        split at hi
        · exact h.1 i q hi
        · rename_i a
          cases hz : i - L.length with
          | zero => rw [hz] at hi; cases hi; exact ⟨b1, b3⟩
          | succ z => rw [hz] at hi; cases hi
      · rw [List.getElem?_append] at hp hq
        split at hq
        · rename_i a
          rw [if_pos (by omega)] at hp
          exact h.2 i j p q hij hp hq
        · rename_i a
          cases hz : j - L.length with
          | zero =>
            rw [hz] at hq; cases hq
            rw [if_pos (by omega)] at hp
            exact of_decide_eq_true (List.all_eq_true.mp b2.2 p (List.mem_of_getElem? hp))
          | succ z => rw [hz] at hq; cases hq
section TOWNS
variable {X : sw_X} {σ : sw_Sg} {x y v w st : Int32} {n p q g k : Nat} {L : List Nat} {W : Nat → Int32}
theorem C_X4_worthOf (hT : gr_T σ n) (hx : x = nI p) (hp : p < n * n) : sw_F X 2 mX4_worthOf [.ref (sw_ad X 1), .ref (sw_ad X 2), .int x] σ (tw_worth n (σ 40) (σ 48) (σ 43) p) σ := by
  subst hx
  have n24 : n ≤ 24 := hT.2.1
  have h576 := gr_576 n24
  refine sw_ME.ofF (by decide +kernel) rfl (Nat.le_of_ble_eq_true rfl) rfl ?_
  have loop : σ 48 p = 8 → ∀ (k e : Nat), e + k = 4 → ∀ (B : Value), SW X 2 mX4_worthOf sw_E0 (sw_Ri (fun r u => r = tw_worth n (σ 40) (σ 48) (σ 43) p ∧ u = σ)) 21 [.ref (sw_ad X 1), .ref (sw_ad X 2), .int (nI p), .int (tw_river n (σ 48) (σ 43) p e), .int (nI e), B] [] σ := by
    intro hk k
    induction k with
    | zero =>
      intro e he B
      obtain rfl : e = 4 := by omega
      refine SW.iload (q := 23) (i := 4) dX4_worthOf_21 rfl rfl ?_
      refine SW.iconst (q := 24) (v := 4) dX4_worthOf_23 (by decide) rfl ?_
      refine SW.icmp_ge (q := 27) (tgt := 76) dX4_worthOf_24 (by decide) rfl (fun _ => ?_) (fun c24 => absurd ((by decide)) c24)
      refine SW.sipush (q := 79) (v := 500) dX4_worthOf_76 (by decide) rfl ?_
      refine SW.aload_n (q := 80) (i := 0) dX4_worthOf_79 rfl rfl rfl ?_
      refine SW.getR (q := 83) (i := 1) (j := 14) fX4_65 rfl rfl dX4_worthOf_80 rfl ?_
      refine SW.iload_n (q := 84) (i := 2) dX4_worthOf_83 rfl rfl rfl ?_
      refine SW.cF (q := 87) (C_X3_atn (i := 14) (j := 40) (n := 576) rfl rfl (k := p) rfl (by omega)) vX4_49 (by decide) rfl rfl rfl rfl (Nat.le_of_ble_eq_true rfl) dX4_worthOf_84 rfl ?_
      refine SW.isub (q := 88) dX4_worthOf_87 rfl ?_
      refine SW.iload_n (q := 89) (i := 3) dX4_worthOf_88 rfl rfl rfl ?_
      refine SW.bipush (q := 91) (v := 60) dX4_worthOf_89 (by decide) rfl ?_
      refine SW.sF (q := 94) (C_min) vX4_68 (by decide) rfl rfl (Nat.le_of_ble_eq_true rfl) dX4_worthOf_91 rfl ?_
      refine SW.iadd (q := 95) dX4_worthOf_94 rfl ?_
      refine SW.iretR rfl rfl dX4_worthOf_95 ?_
      exact ⟨by rw [tw_worth, if_pos hk], rfl⟩
    | succ k ih =>
      intro e he B
      cases hq : gr_nb n p e with
      | none =>
        refine SW.iload (q := 23) (i := 4) dX4_worthOf_21 rfl rfl ?_
        refine SW.iconst (q := 24) (v := 4) dX4_worthOf_23 (by decide) rfl ?_
        refine SW.icmp_ge (q := 27) (tgt := 76) dX4_worthOf_24 (by decide) rfl (fun c24 => absurd c24 ((nI_ge (a := e) (b := 4) (by omega) (by omega)))) (fun _ => ?_)
        refine SW.aload_n (q := 28) (i := 0) dX4_worthOf_27 rfl rfl rfl ?_
        refine SW.iload_n (q := 29) (i := 2) dX4_worthOf_28 rfl rfl rfl ?_
        refine SW.iload (q := 31) (i := 4) dX4_worthOf_29 rfl rfl ?_
        refine SW.cF (q := 34) (C_X5_beside hT rfl rfl hp (by omega)) vX4_53 (by decide) rfl rfl rfl rfl (Nat.le_of_ble_eq_true rfl) dX4_worthOf_31 rfl ?_
        rw [hq]
        refine SW.istore (q := 36) (i := 5) dX4_worthOf_34 (by decide) rfl ?_
        refine SW.iload (q := 38) (i := 5) dX4_worthOf_36 rfl rfl ?_
        refine SW.bipush (q := 40) (v := (-6)) dX4_worthOf_38 (by decide) rfl ?_
        refine SW.icmp_eq (q := 43) (tgt := 70) dX4_worthOf_40 (by decide) rfl (fun _ => ?_) (fun c40 => absurd (rfl) c40)
        refine SW.iinc (q := 73) (v := _ + 1) dX4_worthOf_70 rfl rfl (by decide) rfl ?_
        refine SW.goto (q := 21) dX4_worthOf_73 (by decide) ?_
        exact SW.eq (by rw [tw_river, hq, nI_1]; rfl) rfl rfl (ih (e + 1) (by omega) _)
      | some q =>
        have q0i : gr_v (some q) = nI q := rfl
        have ql := (gr_nb_lt hp hq).1
        by_cases h4 : σ 48 q = 4
        · refine SW.iload (q := 23) (i := 4) dX4_worthOf_21 rfl rfl ?_
          refine SW.iconst (q := 24) (v := 4) dX4_worthOf_23 (by decide) rfl ?_
          refine SW.icmp_ge (q := 27) (tgt := 76) dX4_worthOf_24 (by decide) rfl (fun c24 => absurd c24 ((nI_ge (a := e) (b := 4) (by omega) (by omega)))) (fun _ => ?_)
          refine SW.aload_n (q := 28) (i := 0) dX4_worthOf_27 rfl rfl rfl ?_
          refine SW.iload_n (q := 29) (i := 2) dX4_worthOf_28 rfl rfl rfl ?_
          refine SW.iload (q := 31) (i := 4) dX4_worthOf_29 rfl rfl ?_
          refine SW.cF (q := 34) (C_X5_beside hT rfl rfl hp (by omega)) vX4_53 (by decide) rfl rfl rfl rfl (Nat.le_of_ble_eq_true rfl) dX4_worthOf_31 rfl ?_
          rw [hq, q0i]
          refine SW.istore (q := 36) (i := 5) dX4_worthOf_34 (by decide) rfl ?_
          refine SW.iload (q := 38) (i := 5) dX4_worthOf_36 rfl rfl ?_
          refine SW.bipush (q := 40) (v := (-6)) dX4_worthOf_38 (by decide) rfl ?_
          refine SW.icmp_eq (q := 43) (tgt := 70) dX4_worthOf_40 (by decide) rfl (fun c40 => absurd c40 ((nI_n6 (by omega)))) (fun _ => ?_)
          refine SW.aload_n (q := 44) (i := 1) dX4_worthOf_43 rfl rfl rfl ?_
          refine SW.getR (q := 47) (i := 2) (j := 22) fX4_44 rfl rfl dX4_worthOf_44 rfl ?_
          refine SW.iload (q := 49) (i := 5) dX4_worthOf_47 rfl rfl ?_
          refine SW.cF (q := 52) (C_X3_atn (i := 22) (j := 48) (n := 576) rfl rfl (k := q) rfl (by omega)) vX4_49 (by decide) rfl rfl rfl rfl (Nat.le_of_ble_eq_true rfl) dX4_worthOf_49 rfl ?_
          refine SW.iconst (q := 53) (v := 4) dX4_worthOf_52 (by decide) rfl ?_
          refine SW.icmp_ne (q := 56) (tgt := 70) dX4_worthOf_53 (by decide) rfl (fun c53 => absurd (h4) c53) (fun _ => ?_)
          refine SW.iload_n (q := 57) (i := 3) dX4_worthOf_56 rfl rfl rfl ?_
          refine SW.aload_n (q := 58) (i := 1) dX4_worthOf_57 rfl rfl rfl ?_
          refine SW.getR (q := 61) (i := 2) (j := 17) fX4_57 rfl rfl dX4_worthOf_58 rfl ?_
          refine SW.iload (q := 63) (i := 5) dX4_worthOf_61 rfl rfl ?_
          refine SW.cF (q := 66) (C_X3_atn (i := 17) (j := 43) (n := 576) rfl rfl (k := q) rfl (by omega)) vX4_49 (by decide) rfl rfl rfl rfl (Nat.le_of_ble_eq_true rfl) dX4_worthOf_63 rfl ?_
          refine SW.sF (q := 69) (C_max) vX4_60 (by decide) rfl rfl (Nat.le_of_ble_eq_true rfl) dX4_worthOf_66 rfl ?_
          refine SW.istore_n (q := 70) (i := 3) dX4_worthOf_69 rfl (by decide) rfl ?_
          refine SW.iinc (q := 73) (v := _ + 1) dX4_worthOf_70 rfl rfl (by decide) rfl ?_
          refine SW.goto (q := 21) dX4_worthOf_73 (by decide) ?_
          exact SW.eq (by rw [tw_river, hq, nI_1]; simp only [if_pos h4]; rfl) rfl rfl (ih (e + 1) (by omega) _)
        · refine SW.iload (q := 23) (i := 4) dX4_worthOf_21 rfl rfl ?_
          refine SW.iconst (q := 24) (v := 4) dX4_worthOf_23 (by decide) rfl ?_
          refine SW.icmp_ge (q := 27) (tgt := 76) dX4_worthOf_24 (by decide) rfl (fun c24 => absurd c24 ((nI_ge (a := e) (b := 4) (by omega) (by omega)))) (fun _ => ?_)
          refine SW.aload_n (q := 28) (i := 0) dX4_worthOf_27 rfl rfl rfl ?_
          refine SW.iload_n (q := 29) (i := 2) dX4_worthOf_28 rfl rfl rfl ?_
          refine SW.iload (q := 31) (i := 4) dX4_worthOf_29 rfl rfl ?_
          refine SW.cF (q := 34) (C_X5_beside hT rfl rfl hp (by omega)) vX4_53 (by decide) rfl rfl rfl rfl (Nat.le_of_ble_eq_true rfl) dX4_worthOf_31 rfl ?_
          rw [hq, q0i]
          refine SW.istore (q := 36) (i := 5) dX4_worthOf_34 (by decide) rfl ?_
          refine SW.iload (q := 38) (i := 5) dX4_worthOf_36 rfl rfl ?_
          refine SW.bipush (q := 40) (v := (-6)) dX4_worthOf_38 (by decide) rfl ?_
          refine SW.icmp_eq (q := 43) (tgt := 70) dX4_worthOf_40 (by decide) rfl (fun c40 => absurd c40 ((nI_n6 (by omega)))) (fun _ => ?_)
          refine SW.aload_n (q := 44) (i := 1) dX4_worthOf_43 rfl rfl rfl ?_
          refine SW.getR (q := 47) (i := 2) (j := 22) fX4_44 rfl rfl dX4_worthOf_44 rfl ?_
          refine SW.iload (q := 49) (i := 5) dX4_worthOf_47 rfl rfl ?_
          refine SW.cF (q := 52) (C_X3_atn (i := 22) (j := 48) (n := 576) rfl rfl (k := q) rfl (by omega)) vX4_49 (by decide) rfl rfl rfl rfl (Nat.le_of_ble_eq_true rfl) dX4_worthOf_49 rfl ?_
          refine SW.iconst (q := 53) (v := 4) dX4_worthOf_52 (by decide) rfl ?_
          refine SW.icmp_ne (q := 56) (tgt := 70) dX4_worthOf_53 (by decide) rfl (fun _ => ?_) (fun c53 => absurd c53 (h4))
          refine SW.iinc (q := 73) (v := _ + 1) dX4_worthOf_70 rfl rfl (by decide) rfl ?_
          refine SW.goto (q := 21) dX4_worthOf_73 (by decide) ?_
          exact SW.eq (by rw [tw_river, hq, nI_1]; simp only [if_neg h4]; rfl) rfl rfl (ih (e + 1) (by omega) _)
  refine SW.aload_n (q := 1) (i := 1) dX4_worthOf_0 rfl rfl rfl ?_
  refine SW.getR (q := 4) (i := 2) (j := 22) fX4_44 rfl rfl dX4_worthOf_1 rfl ?_
  refine SW.iload_n (q := 5) (i := 2) dX4_worthOf_4 rfl rfl rfl ?_
  refine SW.cF (q := 8) (C_X3_atn (i := 22) (j := 48) (n := 576) rfl rfl (k := p) rfl (by omega)) vX4_49 (by decide) rfl rfl rfl rfl (Nat.le_of_ble_eq_true rfl) dX4_worthOf_5 rfl ?_
  refine SW.bipush (q := 10) (v := 8) dX4_worthOf_8 (by decide) rfl ?_
  refine SW.icmp_eq (q := 13) (tgt := 16) dX4_worthOf_10 (by decide) rfl (fun c10 => ?_) (fun c10 => ?_)
  · refine SW.iconst (q := 17) (v := 0) dX4_worthOf_16 (by decide) rfl ?_
    refine SW.istore_n (q := 18) (i := 3) dX4_worthOf_17 rfl (by decide) rfl ?_
    refine SW.iconst (q := 19) (v := 0) dX4_worthOf_18 (by decide) rfl ?_
    refine SW.istore (q := 21) (i := 4) dX4_worthOf_19 (by decide) rfl ?_
    exact loop c10 4 0 rfl _
  · refine SW.bipush (q := 15) (v := (-6)) dX4_worthOf_13 (by decide) rfl ?_
    refine SW.iretR rfl rfl dX4_worthOf_15 ?_
    exact ⟨by rw [tw_worth, if_neg c10], rfl⟩
theorem C_X8_worth (hM : gr_M σ n) (hx : x = nI p) (hp : p < n * n) : sw_F X 2 mX8_worth [.ref (sw_ad X 59), .int x] σ (tw_worth n (σ 64) (σ 70) (σ 69) p) σ := by
  subst hx
  have n24 : n ≤ 24 := hM.2.1
  have h576 := gr_576 n24
  refine sw_ME.ofF (by decide +kernel) rfl (Nat.le_of_ble_eq_true rfl) rfl ?_
  have loop : σ 70 p = 8 → ∀ (k e : Nat), e + k = 4 → ∀ (B : Value), SW X 2 mX8_worth sw_E0 (sw_Ri (fun r u => r = tw_worth n (σ 64) (σ 70) (σ 69) p ∧ u = σ)) 18 [.ref (sw_ad X 59), .int (nI p), .int (tw_river n (σ 70) (σ 69) p e), .int (nI e), B] [] σ := by
    intro hk k
    induction k with
    | zero =>
      intro e he B
      obtain rfl : e = 4 := by omega
      refine SW.iload_n (q := 19) (i := 3) dX8_worth_18 rfl rfl rfl ?_
      refine SW.iconst (q := 20) (v := 4) dX8_worth_19 (by decide) rfl ?_
      refine SW.icmp_ge (q := 23) (tgt := 76) dX8_worth_20 (by decide) rfl (fun _ => ?_) (fun c20 => absurd ((by decide)) c20)
      refine SW.sipush (q := 79) (v := 500) dX8_worth_76 (by decide) rfl ?_
      refine SW.aload_n (q := 80) (i := 0) dX8_worth_79 rfl rfl rfl ?_
      refine SW.getR (q := 83) (i := 59) (j := 64) fX8_26 rfl rfl dX8_worth_80 rfl ?_
      refine SW.iload_n (q := 84) (i := 1) dX8_worth_83 rfl rfl rfl ?_
      refine SW.ialdN (q := 85) (k := p) rfl (rfl) (by omega) (by decide) dX8_worth_84 rfl ?_
      refine SW.isub (q := 86) dX8_worth_85 rfl ?_
      refine SW.iload_n (q := 87) (i := 2) dX8_worth_86 rfl rfl rfl ?_
      refine SW.bipush (q := 89) (v := 60) dX8_worth_87 (by decide) rfl ?_
      refine SW.icmp_le (q := 92) (tgt := 97) dX8_worth_89 (by decide) rfl (fun c89 => ?_) (fun c89 => ?_)
      · refine SW.iload_n (q := 98) (i := 2) dX8_worth_97 rfl rfl rfl ?_
        refine SW.iadd (q := 99) dX8_worth_98 rfl ?_
        refine SW.iretR rfl rfl dX8_worth_99 ?_
        refine ⟨?_, rfl⟩
        rw [tw_worth, if_pos hk]
        unfold sw_min
        first
        | (rw [if_pos (Int32.not_le.mp c89)]; done)
        | (rw [if_neg (Int32.not_lt.mpr c89)]; done)
      · refine SW.bipush (q := 94) (v := 60) dX8_worth_92 (by decide) rfl ?_
        refine SW.goto (q := 98) dX8_worth_94 (by decide) ?_
        refine SW.iadd (q := 99) dX8_worth_98 rfl ?_
        refine SW.iretR rfl rfl dX8_worth_99 ?_
        refine ⟨?_, rfl⟩
        rw [tw_worth, if_pos hk]
        unfold sw_min
        first
        | (rw [if_pos (Int32.not_le.mp c89)]; done)
        | (rw [if_neg (Int32.not_lt.mpr c89)]; done)
    | succ k ih =>
      intro e he B
      cases hq : gr_nb n p e with
      | none =>
        refine SW.iload_n (q := 19) (i := 3) dX8_worth_18 rfl rfl rfl ?_
        refine SW.iconst (q := 20) (v := 4) dX8_worth_19 (by decide) rfl ?_
        refine SW.icmp_ge (q := 23) (tgt := 76) dX8_worth_20 (by decide) rfl (fun c20 => absurd c20 ((nI_ge (a := e) (b := 4) (by omega) (by omega)))) (fun _ => ?_)
        refine SW.aload_n (q := 24) (i := 0) dX8_worth_23 rfl rfl rfl ?_
        refine SW.iload_n (q := 25) (i := 1) dX8_worth_24 rfl rfl rfl ?_
        refine SW.iload_n (q := 26) (i := 3) dX8_worth_25 rfl rfl rfl ?_
        refine SW.cF (q := 29) (C_X8_beside hM rfl rfl hp (by omega)) vX8_114 (by decide) rfl rfl rfl rfl (Nat.le_of_ble_eq_true rfl) dX8_worth_26 rfl ?_
        rw [hq]
        refine SW.istore (q := 31) (i := 4) dX8_worth_29 (by decide) rfl ?_
        refine SW.iload (q := 33) (i := 4) dX8_worth_31 rfl rfl ?_
        refine SW.if_lt (q := 36) (tgt := 68) dX8_worth_33 (by decide) rfl (fun _ => ?_) (fun c33 => absurd ((by decide)) c33)
        refine SW.iload_n (q := 69) (i := 2) dX8_worth_68 rfl rfl rfl ?_
        refine SW.istore_n (q := 70) (i := 2) dX8_worth_69 rfl (by decide) rfl ?_
        refine SW.iinc (q := 73) (v := _ + 1) dX8_worth_70 rfl rfl (by decide) rfl ?_
        refine SW.goto (q := 18) dX8_worth_73 (by decide) ?_
        exact SW.eq (by rw [tw_river, hq, nI_1]; rfl) rfl rfl (ih (e + 1) (by omega) _)
      | some q =>
        have q0i : gr_v (some q) = nI q := rfl
        have ql := (gr_nb_lt hp hq).1
        by_cases h4 : σ 70 q = 4
        · refine SW.iload_n (q := 19) (i := 3) dX8_worth_18 rfl rfl rfl ?_
          refine SW.iconst (q := 20) (v := 4) dX8_worth_19 (by decide) rfl ?_
          refine SW.icmp_ge (q := 23) (tgt := 76) dX8_worth_20 (by decide) rfl (fun c20 => absurd c20 ((nI_ge (a := e) (b := 4) (by omega) (by omega)))) (fun _ => ?_)
          refine SW.aload_n (q := 24) (i := 0) dX8_worth_23 rfl rfl rfl ?_
          refine SW.iload_n (q := 25) (i := 1) dX8_worth_24 rfl rfl rfl ?_
          refine SW.iload_n (q := 26) (i := 3) dX8_worth_25 rfl rfl rfl ?_
          refine SW.cF (q := 29) (C_X8_beside hM rfl rfl hp (by omega)) vX8_114 (by decide) rfl rfl rfl rfl (Nat.le_of_ble_eq_true rfl) dX8_worth_26 rfl ?_
          rw [hq, q0i]
          refine SW.istore (q := 31) (i := 4) dX8_worth_29 (by decide) rfl ?_
          refine SW.iload (q := 33) (i := 4) dX8_worth_31 rfl rfl ?_
          refine SW.if_lt (q := 36) (tgt := 68) dX8_worth_33 (by decide) rfl (fun c33 => absurd c33 ((nI_pos (by omega)))) (fun _ => ?_)
          refine SW.aload_n (q := 37) (i := 0) dX8_worth_36 rfl rfl rfl ?_
          refine SW.getR (q := 40) (i := 59) (j := 70) fX8_44 rfl rfl dX8_worth_37 rfl ?_
          refine SW.iload (q := 42) (i := 4) dX8_worth_40 rfl rfl ?_
          refine SW.ialdN (q := 43) (k := q) rfl (rfl) (by omega) (by decide) dX8_worth_42 rfl ?_
          refine SW.iconst (q := 44) (v := 4) dX8_worth_43 (by decide) rfl ?_
          refine SW.icmp_ne (q := 47) (tgt := 68) dX8_worth_44 (by decide) rfl (fun c44 => absurd (h4) c44) (fun _ => ?_)
          refine SW.aload_n (q := 48) (i := 0) dX8_worth_47 rfl rfl rfl ?_
          refine SW.getR (q := 51) (i := 59) (j := 69) fX8_41 rfl rfl dX8_worth_48 rfl ?_
          refine SW.iload (q := 53) (i := 4) dX8_worth_51 rfl rfl ?_
          refine SW.ialdN (q := 54) (k := q) rfl (rfl) (by omega) (by decide) dX8_worth_53 rfl ?_
          refine SW.iload_n (q := 55) (i := 2) dX8_worth_54 rfl rfl rfl ?_
          refine SW.icmp_le (q := 58) (tgt := 68) dX8_worth_55 (by decide) rfl (fun c55 => ?_) (fun c55 => ?_)
          · refine SW.iload_n (q := 69) (i := 2) dX8_worth_68 rfl rfl rfl ?_
            refine SW.istore_n (q := 70) (i := 2) dX8_worth_69 rfl (by decide) rfl ?_
            refine SW.iinc (q := 73) (v := _ + 1) dX8_worth_70 rfl rfl (by decide) rfl ?_
            refine SW.goto (q := 18) dX8_worth_73 (by decide) ?_
            first
            | exact SW.eq (by rw [tw_river, hq, nI_1]; simp only [if_pos h4]; rw [sw_max, if_pos (Int32.not_le.mp c55)]; rfl) rfl rfl (ih (e + 1) (by omega) _)
            | exact SW.eq (by rw [tw_river, hq, nI_1]; simp only [if_pos h4]; rw [sw_max, if_neg (Int32.not_lt.mpr c55)]; rfl) rfl rfl (ih (e + 1) (by omega) _)
          · refine SW.aload_n (q := 59) (i := 0) dX8_worth_58 rfl rfl rfl ?_
            refine SW.getR (q := 62) (i := 59) (j := 69) fX8_41 rfl rfl dX8_worth_59 rfl ?_
            refine SW.iload (q := 64) (i := 4) dX8_worth_62 rfl rfl ?_
            refine SW.ialdN (q := 65) (k := q) rfl (rfl) (by omega) (by decide) dX8_worth_64 rfl ?_
            refine SW.goto (q := 69) dX8_worth_65 (by decide) ?_
            refine SW.istore_n (q := 70) (i := 2) dX8_worth_69 rfl (by decide) rfl ?_
            refine SW.iinc (q := 73) (v := _ + 1) dX8_worth_70 rfl rfl (by decide) rfl ?_
            refine SW.goto (q := 18) dX8_worth_73 (by decide) ?_
            first
            | exact SW.eq (by rw [tw_river, hq, nI_1]; simp only [if_pos h4]; rw [sw_max, if_pos (Int32.not_le.mp c55)]; rfl) rfl rfl (ih (e + 1) (by omega) _)
            | exact SW.eq (by rw [tw_river, hq, nI_1]; simp only [if_pos h4]; rw [sw_max, if_neg (Int32.not_lt.mpr c55)]; rfl) rfl rfl (ih (e + 1) (by omega) _)
        · refine SW.iload_n (q := 19) (i := 3) dX8_worth_18 rfl rfl rfl ?_
          refine SW.iconst (q := 20) (v := 4) dX8_worth_19 (by decide) rfl ?_
          refine SW.icmp_ge (q := 23) (tgt := 76) dX8_worth_20 (by decide) rfl (fun c20 => absurd c20 ((nI_ge (a := e) (b := 4) (by omega) (by omega)))) (fun _ => ?_)
          refine SW.aload_n (q := 24) (i := 0) dX8_worth_23 rfl rfl rfl ?_
          refine SW.iload_n (q := 25) (i := 1) dX8_worth_24 rfl rfl rfl ?_
          refine SW.iload_n (q := 26) (i := 3) dX8_worth_25 rfl rfl rfl ?_
          refine SW.cF (q := 29) (C_X8_beside hM rfl rfl hp (by omega)) vX8_114 (by decide) rfl rfl rfl rfl (Nat.le_of_ble_eq_true rfl) dX8_worth_26 rfl ?_
          rw [hq, q0i]
          refine SW.istore (q := 31) (i := 4) dX8_worth_29 (by decide) rfl ?_
          refine SW.iload (q := 33) (i := 4) dX8_worth_31 rfl rfl ?_
          refine SW.if_lt (q := 36) (tgt := 68) dX8_worth_33 (by decide) rfl (fun c33 => absurd c33 ((nI_pos (by omega)))) (fun _ => ?_)
          refine SW.aload_n (q := 37) (i := 0) dX8_worth_36 rfl rfl rfl ?_
          refine SW.getR (q := 40) (i := 59) (j := 70) fX8_44 rfl rfl dX8_worth_37 rfl ?_
          refine SW.iload (q := 42) (i := 4) dX8_worth_40 rfl rfl ?_
          refine SW.ialdN (q := 43) (k := q) rfl (rfl) (by omega) (by decide) dX8_worth_42 rfl ?_
          refine SW.iconst (q := 44) (v := 4) dX8_worth_43 (by decide) rfl ?_
          refine SW.icmp_ne (q := 47) (tgt := 68) dX8_worth_44 (by decide) rfl (fun _ => ?_) (fun c44 => absurd c44 (h4))
          refine SW.iload_n (q := 69) (i := 2) dX8_worth_68 rfl rfl rfl ?_
          refine SW.istore_n (q := 70) (i := 2) dX8_worth_69 rfl (by decide) rfl ?_
          refine SW.iinc (q := 73) (v := _ + 1) dX8_worth_70 rfl rfl (by decide) rfl ?_
          refine SW.goto (q := 18) dX8_worth_73 (by decide) ?_
          exact SW.eq (by rw [tw_river, hq, nI_1]; simp only [if_neg h4]; rfl) rfl rfl (ih (e + 1) (by omega) _)
  refine SW.aload_n (q := 1) (i := 0) dX8_worth_0 rfl rfl rfl ?_
  refine SW.getR (q := 4) (i := 59) (j := 70) fX8_44 rfl rfl dX8_worth_1 rfl ?_
  refine SW.iload_n (q := 5) (i := 1) dX8_worth_4 rfl rfl rfl ?_
  refine SW.ialdN (q := 6) (k := p) rfl (rfl) (by omega) (by decide) dX8_worth_5 rfl ?_
  refine SW.bipush (q := 8) (v := 8) dX8_worth_6 (by decide) rfl ?_
  refine SW.icmp_eq (q := 11) (tgt := 14) dX8_worth_8 (by decide) rfl (fun c8 => ?_) (fun c8 => ?_)
  · refine SW.iconst (q := 15) (v := 0) dX8_worth_14 (by decide) rfl ?_
    refine SW.istore_n (q := 16) (i := 2) dX8_worth_15 rfl (by decide) rfl ?_
    refine SW.iconst (q := 17) (v := 0) dX8_worth_16 (by decide) rfl ?_
    refine SW.istore_n (q := 18) (i := 3) dX8_worth_17 rfl (by decide) rfl ?_
    exact loop c8 4 0 rfl _
  · refine SW.bipush (q := 13) (v := (-6)) dX8_worth_11 (by decide) rfl ?_
    refine SW.iretR rfl rfl dX8_worth_13 ?_
    exact ⟨by rw [tw_worth, if_neg c8], rfl⟩
end TOWNS
