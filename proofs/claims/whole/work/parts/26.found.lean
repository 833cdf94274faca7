/-! TOWNS in the class and in the reference -/
section FOUND
variable {X : sw_X} {σ : sw_Sg} {x y v w st : Int32} {n p q g k wn : Nat} {L : List Nat} {W : Nat → Int32}
/-- a row of towns as an array holds it -/
def tw_row (i : Nat) (L : List Nat) (τ : sw_Sg) : Prop := ∀ t q : Nat, L[t]? = some q → τ i t = nI q
theorem tw_row.fr {i : Nat} {l : List Nat} {u : sw_Sg} (a : tw_row i L σ) (hf : fr_ l σ u) (h : i ∉ l) : tw_row i L u := fun t q hq => by rw [hf i h]; exact a t q hq
theorem tw_row.snoc {i b : Nat} (a : tw_row i L σ) : tw_row i (L ++ [b]) (sw_up σ i L.length (nI b)) := by
  intro t q hq
  rw [List.getElem?_append] at hq
  split at hq
  · rename_i z; rw [sw_o1 (by omega)]; exact a t q hq
  · rename_i z
    cases e : t - L.length with
    | zero => rw [e] at hq; cases hq; rw [show t = L.length by omega, sw_i1]
    | succ e' => rw [e] at hq; cases hq
theorem getD_some {t : Nat} (h : t < L.length) : ∃ q, L[t]? = some q := ⟨L[t], List.getElem?_eq_getElem h⟩
theorem C_X4_isFarFromAll (hT : gr_T σ n) (hc : σ 4 2 = nI L.length) (hL : L.length ≤ 6) (hr : tw_row 53 L σ) (hq : ∀ t q : Nat, L[t]? = some q → q < n * n) (hx : x = nI p) (hp : p < n * n) (hy : y = nI g) (hg : g ≤ 12) :
    sw_F X 2 mX4_isFarFromAll [.ref (sw_ad X 4), .ref (sw_ad X 1), .int x, .int y] σ (sw_b (tw_far n g L p)) σ := by
  subst hx; subst hy
  have n24 : n ≤ 24 := hT.2.1
  have h576 := gr_576 n24
  refine sw_ME.ofF (by decide +kernel) rfl (Nat.le_of_ble_eq_true rfl) rfl ?_
  have loop : ∀ (k t : Nat), t + k = L.length → (∀ i q : Nat, i < t → L[i]? = some q → g ≤ gr_dist n p q) → SW X 2 mX4_isFarFromAll sw_E0 (sw_Ri (fun r u => r = sw_b (tw_far n g L p) ∧ u = σ)) 3 [.ref (sw_ad X 4), .ref (sw_ad X 1), .int (nI p), .int (nI g), .int (nI t)] [] σ := by
    intro k
    induction k with
    | zero =>
      intro t ht hI
      obtain rfl : t = L.length := by omega
      refine SW.iload (q := 5) (i := 4) dX4_isFarFromAll_3 rfl rfl ?_
      refine SW.aload_n (q := 6) (i := 0) dX4_isFarFromAll_5 rfl rfl rfl ?_
      refine SW.getI (q := 9) (i := 4) fX4_23 rfl rfl dX4_isFarFromAll_6 rfl ?_
      refine SW.icmp_ge (q := 12) (tgt := 38) dX4_isFarFromAll_9 (by decide) rfl (fun _ => ?_) (fun c9 => absurd ((by rw [hc]; exact Int32.le_refl _)) c9)
      refine SW.iconst (q := 39) (v := 1) dX4_isFarFromAll_38 (by decide) rfl ?_
      refine SW.iretR rfl rfl dX4_isFarFromAll_39 ?_
      exact ⟨by rw [tw_far_t (fun i q hi => hI i q (by have := (List.getElem?_eq_some_iff.mp hi).1; exact this) hi)]; rfl, rfl⟩
    | succ k ih =>
      intro t ht hI
      obtain ⟨q, hqt⟩ := getD_some (L := L) (t := t) (by omega)
      have ql := hq t q hqt
      have hd : gr_dist n p q < 2 ^ 20 := by
        obtain ⟨l1, l2, l3⟩ := gr_lt hp
        obtain ⟨m1, m2, m3⟩ := gr_lt ql
        unfold gr_dist gr_abs
        generalize p / n = u1 at *
        generalize p % n = u2 at *
        generalize q / n = u3 at *
        generalize q % n = u4 at *
        split <;> split <;> omega
      by_cases hgd : g ≤ gr_dist n p q
      · refine SW.iload (q := 5) (i := 4) dX4_isFarFromAll_3 rfl rfl ?_
        refine SW.aload_n (q := 6) (i := 0) dX4_isFarFromAll_5 rfl rfl rfl ?_
        refine SW.getI (q := 9) (i := 4) fX4_23 rfl rfl dX4_isFarFromAll_6 rfl ?_
        refine SW.icmp_ge (q := 12) (tgt := 38) dX4_isFarFromAll_9 (by decide) rfl (fun c9 => absurd c9 ((by rw [hc]; exact nI_ge (by omega) (by omega)))) (fun _ => ?_)
        refine SW.aload_n (q := 13) (i := 1) dX4_isFarFromAll_12 rfl rfl rfl ?_
        refine SW.iload_n (q := 14) (i := 2) dX4_isFarFromAll_13 rfl rfl rfl ?_
        refine SW.aload_n (q := 15) (i := 0) dX4_isFarFromAll_14 rfl rfl rfl ?_
        refine SW.getR (q := 18) (i := 4) (j := 27) fX4_20 rfl rfl dX4_isFarFromAll_15 rfl ?_
        refine SW.iload (q := 20) (i := 4) dX4_isFarFromAll_18 rfl rfl ?_
        refine SW.cF (q := 23) (C_X3_atn (i := 27) (j := 53) (n := 6) rfl rfl (k := t) rfl (by omega)) vX4_49 (by decide) rfl rfl rfl rfl (Nat.le_of_ble_eq_true rfl) dX4_isFarFromAll_20 rfl ?_
        refine SW.cF (q := 26) (C_X5_rowsAndColumnsBetween hT rfl (hr t q hqt) hp ql) vX4_75 (by decide) rfl rfl rfl rfl (Nat.le_of_ble_eq_true rfl) dX4_isFarFromAll_23 rfl ?_
        refine SW.iload_n (q := 27) (i := 3) dX4_isFarFromAll_26 rfl rfl rfl ?_
        refine SW.icmp_ge (q := 30) (tgt := 32) dX4_isFarFromAll_27 (by decide) rfl (fun _ => ?_) (fun c27 => absurd ((nI_le hgd (by omega))) c27)
        refine SW.iinc (q := 35) (v := _ + 1) dX4_isFarFromAll_32 rfl rfl (by decide) rfl ?_
        refine SW.goto (q := 3) dX4_isFarFromAll_35 (by decide) ?_
        refine SW.eq (by rw [nI_1]; rfl) rfl rfl (ih (t + 1) (by omega) (fun i q' hi hq' => ?_))
        by_cases z : i = t
        · subst z; rw [hqt] at hq'; cases hq'; exact hgd
        · exact hI i q' (by omega) hq'
      · refine SW.iload (q := 5) (i := 4) dX4_isFarFromAll_3 rfl rfl ?_
        refine SW.aload_n (q := 6) (i := 0) dX4_isFarFromAll_5 rfl rfl rfl ?_
        refine SW.getI (q := 9) (i := 4) fX4_23 rfl rfl dX4_isFarFromAll_6 rfl ?_
        refine SW.icmp_ge (q := 12) (tgt := 38) dX4_isFarFromAll_9 (by decide) rfl (fun c9 => absurd c9 ((by rw [hc]; exact nI_ge (by omega) (by omega)))) (fun _ => ?_)
        refine SW.aload_n (q := 13) (i := 1) dX4_isFarFromAll_12 rfl rfl rfl ?_
        refine SW.iload_n (q := 14) (i := 2) dX4_isFarFromAll_13 rfl rfl rfl ?_
        refine SW.aload_n (q := 15) (i := 0) dX4_isFarFromAll_14 rfl rfl rfl ?_
        refine SW.getR (q := 18) (i := 4) (j := 27) fX4_20 rfl rfl dX4_isFarFromAll_15 rfl ?_
        refine SW.iload (q := 20) (i := 4) dX4_isFarFromAll_18 rfl rfl ?_
        refine SW.cF (q := 23) (C_X3_atn (i := 27) (j := 53) (n := 6) rfl rfl (k := t) rfl (by omega)) vX4_49 (by decide) rfl rfl rfl rfl (Nat.le_of_ble_eq_true rfl) dX4_isFarFromAll_20 rfl ?_
        refine SW.cF (q := 26) (C_X5_rowsAndColumnsBetween hT rfl (hr t q hqt) hp ql) vX4_75 (by decide) rfl rfl rfl rfl (Nat.le_of_ble_eq_true rfl) dX4_isFarFromAll_23 rfl ?_
        refine SW.iload_n (q := 27) (i := 3) dX4_isFarFromAll_26 rfl rfl rfl ?_
        refine SW.icmp_ge (q := 30) (tgt := 32) dX4_isFarFromAll_27 (by decide) rfl (fun c27 => absurd c27 ((nI_ge (by omega) (by omega)))) (fun _ => ?_)
        refine SW.iconst (q := 31) (v := 0) dX4_isFarFromAll_30 (by decide) rfl ?_
        refine SW.iretR rfl rfl dX4_isFarFromAll_31 ?_
        exact ⟨by rw [tw_far_f hqt hgd]; rfl, rfl⟩
  refine SW.iconst (q := 1) (v := 0) dX4_isFarFromAll_0 (by decide) rfl ?_
  refine SW.istore (q := 3) (i := 4) dX4_isFarFromAll_1 (by decide) rfl ?_
  exact loop L.length 0 (by omega) (fun i q hi => absurd hi (Nat.not_lt_zero _))
theorem C_X4_bestPlace (hT : gr_T σ n) (hc : σ 4 2 = nI L.length) (hL : L.length ≤ 6) (hr : tw_row 53 L σ) (hq : ∀ t q : Nat, L[t]? = some q → q < n * n) (hy : y = nI g) (hg : g ≤ 12) :
    sw_F X 3 mX4_bestPlace [.ref (sw_ad X 4), .ref (sw_ad X 1), .int y] σ (gr_v (tw_next n g (σ 52) L)) σ := by
  subst hy
  have n24 : n ≤ 24 := hT.2.1
  have h576 := gr_576 n24
  have hpl : σ 1 2 = nI (n * n) := hT.2.2.2.1
  refine sw_ME.ofF (by decide +kernel) rfl (Nat.le_of_ble_eq_true rfl) rfl ?_
  have loop : ∀ (k p : Nat), p + k = n * n → SW X 3 mX4_bestPlace sw_E0 (sw_Ri (fun r u => r = gr_v (tw_next n g (σ 52) L) ∧ u = σ)) 6 [.ref (sw_ad X 4), .ref (sw_ad X 1), .int (nI g), .int (gr_v (tw_best (σ 52) (fun p => decide (¬ σ 52 p = -6) && tw_far n g L p) p)), .int (nI p)] [] σ := by
    intro k
    induction k with
    | zero =>
      intro p hp
      obtain rfl : p = n * n := by omega
      refine SW.iload (q := 8) (i := 4) dX4_bestPlace_6 rfl rfl ?_
      refine SW.aload_n (q := 9) (i := 1) dX4_bestPlace_8 rfl rfl rfl ?_
      refine SW.getI (q := 12) (i := 1) fX4_27 rfl rfl dX4_bestPlace_9 rfl ?_
      refine SW.icmp_ge (q := 15) (tgt := 75) dX4_bestPlace_12 (by decide) rfl (fun _ => ?_) (fun c12 => absurd ((by rw [hpl]; exact Int32.le_refl _)) c12)
      refine SW.iload_n (q := 76) (i := 3) dX4_bestPlace_75 rfl rfl rfl ?_
      refine SW.iretR rfl rfl dX4_bestPlace_76 ?_
      exact ⟨rfl, rfl⟩
    | succ k ih =>
      intro p hpk
      have hp : p < n * n := by omega
      have keep : tw_best (σ 52) (fun p => decide (¬ σ 52 p = -6) && tw_far n g L p) (p + 1) = tw_best (σ 52) (fun p => decide (¬ σ 52 p = -6) && tw_far n g L p) p → ∀ v, v = gr_v (tw_best (σ 52) (fun p => decide (¬ σ 52 p = -6) && tw_far n g L p) p) → SW X 3 mX4_bestPlace sw_E0 (sw_Ri (fun r u => r = gr_v (tw_next n g (σ 52) L) ∧ u = σ)) 6 [.ref (sw_ad X 4), .ref (sw_ad X 1), .int (nI g), .int v, .int (nI (p + 1))] [] σ := by
        rintro e v rfl
        rw [← e]
        exact ih (p + 1) (by omega)
      have take : tw_best (σ 52) (fun p => decide (¬ σ 52 p = -6) && tw_far n g L p) (p + 1) = some p → SW X 3 mX4_bestPlace sw_E0 (sw_Ri (fun r u => r = gr_v (tw_next n g (σ 52) L) ∧ u = σ)) 6 [.ref (sw_ad X 4), .ref (sw_ad X 1), .int (nI g), .int (nI p), .int (nI (p + 1))] [] σ := by
        intro e
        have := ih (p + 1) (by omega)
        rw [e] at this
        exact this
      have blt := tw_best_lt (W := σ 52) (can := fun p => decide (¬ σ 52 p = -6) && tw_far n g L p) p
      cases hcan : (decide (¬ σ 52 p = -6) && tw_far n g L p) with
      | false =>
        have ek : tw_best (σ 52) (fun p => decide (¬ σ 52 p = -6) && tw_far n g L p) (p + 1) = tw_best (σ 52) (fun p => decide (¬ σ 52 p = -6) && tw_far n g L p) p := by
          simp only [tw_best, hcan]
          cases tw_best (σ 52) (fun p => decide (¬ σ 52 p = -6) && tw_far n g L p) p <;> simp
        by_cases hw : σ 52 p = -6
        · refine SW.iload (q := 8) (i := 4) dX4_bestPlace_6 rfl rfl ?_
          refine SW.aload_n (q := 9) (i := 1) dX4_bestPlace_8 rfl rfl rfl ?_
          refine SW.getI (q := 12) (i := 1) fX4_27 rfl rfl dX4_bestPlace_9 rfl ?_
          refine SW.icmp_ge (q := 15) (tgt := 75) dX4_bestPlace_12 (by decide) rfl (fun c12 => absurd c12 ((by rw [hpl]; exact nI_ge (by omega) (by omega)))) (fun _ => ?_)
          refine SW.aload_n (q := 16) (i := 0) dX4_bestPlace_15 rfl rfl rfl ?_
          refine SW.getR (q := 19) (i := 4) (j := 26) fX4_14 rfl rfl dX4_bestPlace_16 rfl ?_
          refine SW.iload (q := 21) (i := 4) dX4_bestPlace_19 rfl rfl ?_
          refine SW.cF (q := 24) (C_X3_atn (i := 26) (j := 52) (n := 576) rfl rfl (k := p) rfl (by omega)) vX4_49 (by decide) rfl rfl rfl rfl (Nat.le_of_ble_eq_true rfl) dX4_bestPlace_21 rfl ?_
          refine SW.bipush (q := 26) (v := (-6)) dX4_bestPlace_24 (by decide) rfl ?_
          refine SW.icmp_eq (q := 29) (tgt := 69) dX4_bestPlace_26 (by decide) rfl (fun _ => ?_) (fun c26 => absurd (hw) c26)
          refine SW.iinc (q := 72) (v := _ + 1) dX4_bestPlace_69 rfl rfl (by decide) rfl ?_
          refine SW.goto (q := 6) dX4_bestPlace_72 (by decide) ?_
          exact SW.eq (by rw [nI_1]; rfl) rfl rfl (keep ek _ rfl)
        · have hfar : tw_far n g L p = false := by simpa [hw] using hcan
          refine SW.iload (q := 8) (i := 4) dX4_bestPlace_6 rfl rfl ?_
          refine SW.aload_n (q := 9) (i := 1) dX4_bestPlace_8 rfl rfl rfl ?_
          refine SW.getI (q := 12) (i := 1) fX4_27 rfl rfl dX4_bestPlace_9 rfl ?_
          refine SW.icmp_ge (q := 15) (tgt := 75) dX4_bestPlace_12 (by decide) rfl (fun c12 => absurd c12 ((by rw [hpl]; exact nI_ge (by omega) (by omega)))) (fun _ => ?_)
          refine SW.aload_n (q := 16) (i := 0) dX4_bestPlace_15 rfl rfl rfl ?_
          refine SW.getR (q := 19) (i := 4) (j := 26) fX4_14 rfl rfl dX4_bestPlace_16 rfl ?_
          refine SW.iload (q := 21) (i := 4) dX4_bestPlace_19 rfl rfl ?_
          refine SW.cF (q := 24) (C_X3_atn (i := 26) (j := 52) (n := 576) rfl rfl (k := p) rfl (by omega)) vX4_49 (by decide) rfl rfl rfl rfl (Nat.le_of_ble_eq_true rfl) dX4_bestPlace_21 rfl ?_
          refine SW.bipush (q := 26) (v := (-6)) dX4_bestPlace_24 (by decide) rfl ?_
          refine SW.icmp_eq (q := 29) (tgt := 69) dX4_bestPlace_26 (by decide) rfl (fun c26 => absurd c26 (hw)) (fun _ => ?_)
          refine SW.aload_n (q := 30) (i := 0) dX4_bestPlace_29 rfl rfl rfl ?_
          refine SW.aload_n (q := 31) (i := 1) dX4_bestPlace_30 rfl rfl rfl ?_
          refine SW.iload (q := 33) (i := 4) dX4_bestPlace_31 rfl rfl ?_
          refine SW.iload_n (q := 34) (i := 2) dX4_bestPlace_33 rfl rfl rfl ?_
          refine SW.cF (q := 37) (C_X4_isFarFromAll hT hc hL hr hq rfl hp rfl hg) vX4_71 (by decide) rfl rfl rfl rfl (Nat.le_of_ble_eq_true rfl) dX4_bestPlace_34 rfl ?_
          rw [hfar]
          refine SW.if_eq (q := 40) (tgt := 69) dX4_bestPlace_37 (by decide) rfl (fun _ => ?_) (fun c37 => absurd (rfl) c37)
          refine SW.iinc (q := 72) (v := _ + 1) dX4_bestPlace_69 rfl rfl (by decide) rfl ?_
          refine SW.goto (q := 6) dX4_bestPlace_72 (by decide) ?_
          exact SW.eq (by rw [nI_1]; rfl) rfl rfl (keep ek _ rfl)
      | true =>
        simp only [Bool.and_eq_true] at hcan
        have hw : ¬ σ 52 p = -6 := of_decide_eq_true hcan.1
        have hfar := hcan.2
        cases hb : tw_best (σ 52) (fun p => decide (¬ σ 52 p = -6) && tw_far n g L p) p with
        | none =>
          have ek : tw_best (σ 52) (fun p => decide (¬ σ 52 p = -6) && tw_far n g L p) (p + 1) = some p := by
            simp only [tw_best, hb]; simp [hw, hfar]
          refine SW.iload (q := 8) (i := 4) dX4_bestPlace_6 rfl rfl ?_
          refine SW.aload_n (q := 9) (i := 1) dX4_bestPlace_8 rfl rfl rfl ?_
          refine SW.getI (q := 12) (i := 1) fX4_27 rfl rfl dX4_bestPlace_9 rfl ?_
          refine SW.icmp_ge (q := 15) (tgt := 75) dX4_bestPlace_12 (by decide) rfl (fun c12 => absurd c12 ((by rw [hpl]; exact nI_ge (by omega) (by omega)))) (fun _ => ?_)
          refine SW.aload_n (q := 16) (i := 0) dX4_bestPlace_15 rfl rfl rfl ?_
          refine SW.getR (q := 19) (i := 4) (j := 26) fX4_14 rfl rfl dX4_bestPlace_16 rfl ?_
          refine SW.iload (q := 21) (i := 4) dX4_bestPlace_19 rfl rfl ?_
          refine SW.cF (q := 24) (C_X3_atn (i := 26) (j := 52) (n := 576) rfl rfl (k := p) rfl (by omega)) vX4_49 (by decide) rfl rfl rfl rfl (Nat.le_of_ble_eq_true rfl) dX4_bestPlace_21 rfl ?_
          refine SW.bipush (q := 26) (v := (-6)) dX4_bestPlace_24 (by decide) rfl ?_
          refine SW.icmp_eq (q := 29) (tgt := 69) dX4_bestPlace_26 (by decide) rfl (fun c26 => absurd c26 (hw)) (fun _ => ?_)
          refine SW.aload_n (q := 30) (i := 0) dX4_bestPlace_29 rfl rfl rfl ?_
          refine SW.aload_n (q := 31) (i := 1) dX4_bestPlace_30 rfl rfl rfl ?_
          refine SW.iload (q := 33) (i := 4) dX4_bestPlace_31 rfl rfl ?_
          refine SW.iload_n (q := 34) (i := 2) dX4_bestPlace_33 rfl rfl rfl ?_
          refine SW.cF (q := 37) (C_X4_isFarFromAll hT hc hL hr hq rfl hp rfl hg) vX4_71 (by decide) rfl rfl rfl rfl (Nat.le_of_ble_eq_true rfl) dX4_bestPlace_34 rfl ?_
          rw [hfar]
          refine SW.if_eq (q := 40) (tgt := 69) dX4_bestPlace_37 (by decide) rfl (fun c37 => absurd c37 ((by decide))) (fun _ => ?_)
          refine SW.iload_n (q := 41) (i := 3) dX4_bestPlace_40 rfl rfl rfl ?_
          refine SW.bipush (q := 43) (v := (-6)) dX4_bestPlace_41 (by decide) rfl ?_
          refine SW.icmp_eq (q := 46) (tgt := 66) dX4_bestPlace_43 (by decide) rfl (fun _ => ?_) (fun c43 => absurd (rfl) c43)
          refine SW.iload (q := 68) (i := 4) dX4_bestPlace_66 rfl rfl ?_
          refine SW.istore_n (q := 69) (i := 3) dX4_bestPlace_68 rfl (by decide) rfl ?_
          refine SW.iinc (q := 72) (v := _ + 1) dX4_bestPlace_69 rfl rfl (by decide) rfl ?_
          refine SW.goto (q := 6) dX4_bestPlace_72 (by decide) ?_
          exact SW.eq (by rw [nI_1]; rfl) rfl rfl (take ek)
        | some b =>
          have b1 := (blt b hb).1
          have bi : gr_v (some b) = nI b := rfl
          by_cases hlt : σ 52 b < σ 52 p
          · have ek : tw_best (σ 52) (fun p => decide (¬ σ 52 p = -6) && tw_far n g L p) (p + 1) = some p := by
              simp only [tw_best, hb]; simp [hw, hfar, hlt]
            refine SW.iload (q := 8) (i := 4) dX4_bestPlace_6 rfl rfl ?_
            refine SW.aload_n (q := 9) (i := 1) dX4_bestPlace_8 rfl rfl rfl ?_
            refine SW.getI (q := 12) (i := 1) fX4_27 rfl rfl dX4_bestPlace_9 rfl ?_
            refine SW.icmp_ge (q := 15) (tgt := 75) dX4_bestPlace_12 (by decide) rfl (fun c12 => absurd c12 ((by rw [hpl]; exact nI_ge (by omega) (by omega)))) (fun _ => ?_)
            refine SW.aload_n (q := 16) (i := 0) dX4_bestPlace_15 rfl rfl rfl ?_
            refine SW.getR (q := 19) (i := 4) (j := 26) fX4_14 rfl rfl dX4_bestPlace_16 rfl ?_
            refine SW.iload (q := 21) (i := 4) dX4_bestPlace_19 rfl rfl ?_
            refine SW.cF (q := 24) (C_X3_atn (i := 26) (j := 52) (n := 576) rfl rfl (k := p) rfl (by omega)) vX4_49 (by decide) rfl rfl rfl rfl (Nat.le_of_ble_eq_true rfl) dX4_bestPlace_21 rfl ?_
            refine SW.bipush (q := 26) (v := (-6)) dX4_bestPlace_24 (by decide) rfl ?_
            refine SW.icmp_eq (q := 29) (tgt := 69) dX4_bestPlace_26 (by decide) rfl (fun c26 => absurd c26 (hw)) (fun _ => ?_)
            refine SW.aload_n (q := 30) (i := 0) dX4_bestPlace_29 rfl rfl rfl ?_
            refine SW.aload_n (q := 31) (i := 1) dX4_bestPlace_30 rfl rfl rfl ?_
            refine SW.iload (q := 33) (i := 4) dX4_bestPlace_31 rfl rfl ?_
            refine SW.iload_n (q := 34) (i := 2) dX4_bestPlace_33 rfl rfl rfl ?_
            refine SW.cF (q := 37) (C_X4_isFarFromAll hT hc hL hr hq rfl hp rfl hg) vX4_71 (by decide) rfl rfl rfl rfl (Nat.le_of_ble_eq_true rfl) dX4_bestPlace_34 rfl ?_
            rw [hfar]
            refine SW.if_eq (q := 40) (tgt := 69) dX4_bestPlace_37 (by decide) rfl (fun c37 => absurd c37 ((by decide))) (fun _ => ?_)
            refine SW.iload_n (q := 41) (i := 3) dX4_bestPlace_40 rfl rfl rfl ?_
            refine SW.bipush (q := 43) (v := (-6)) dX4_bestPlace_41 (by decide) rfl ?_
            refine SW.icmp_eq (q := 46) (tgt := 66) dX4_bestPlace_43 (by decide) rfl (fun c43 => absurd c43 ((by rw [bi]; exact nI_n6 (by omega)))) (fun _ => ?_)
            refine SW.aload_n (q := 47) (i := 0) dX4_bestPlace_46 rfl rfl rfl ?_
            refine SW.getR (q := 50) (i := 4) (j := 26) fX4_14 rfl rfl dX4_bestPlace_47 rfl ?_
            refine SW.iload (q := 52) (i := 4) dX4_bestPlace_50 rfl rfl ?_
            refine SW.cF (q := 55) (C_X3_atn (i := 26) (j := 52) (n := 576) rfl rfl (k := p) rfl (by omega)) vX4_49 (by decide) rfl rfl rfl rfl (Nat.le_of_ble_eq_true rfl) dX4_bestPlace_52 rfl ?_
            refine SW.aload_n (q := 56) (i := 0) dX4_bestPlace_55 rfl rfl rfl ?_
            refine SW.getR (q := 59) (i := 4) (j := 26) fX4_14 rfl rfl dX4_bestPlace_56 rfl ?_
            refine SW.iload_n (q := 60) (i := 3) dX4_bestPlace_59 rfl rfl rfl ?_
            refine SW.cF (q := 63) (C_X3_atn (i := 26) (j := 52) (n := 576) rfl rfl (k := b) bi (by omega)) vX4_49 (by decide) rfl rfl rfl rfl (Nat.le_of_ble_eq_true rfl) dX4_bestPlace_60 rfl ?_
            refine SW.icmp_le (q := 66) (tgt := 69) dX4_bestPlace_63 (by decide) rfl (fun c63 => absurd c63 ((Int32.not_le.mpr hlt))) (fun _ => ?_)
            refine SW.iload (q := 68) (i := 4) dX4_bestPlace_66 rfl rfl ?_
            refine SW.istore_n (q := 69) (i := 3) dX4_bestPlace_68 rfl (by decide) rfl ?_
            refine SW.iinc (q := 72) (v := _ + 1) dX4_bestPlace_69 rfl rfl (by decide) rfl ?_
            refine SW.goto (q := 6) dX4_bestPlace_72 (by decide) ?_
            exact SW.eq (by rw [nI_1]; rfl) rfl rfl (take ek)
          · have ek : tw_best (σ 52) (fun p => decide (¬ σ 52 p = -6) && tw_far n g L p) (p + 1) = tw_best (σ 52) (fun p => decide (¬ σ 52 p = -6) && tw_far n g L p) p := by
              rw [hb]; simp only [tw_best, hb]; simp [hlt]
            refine SW.iload (q := 8) (i := 4) dX4_bestPlace_6 rfl rfl ?_
            refine SW.aload_n (q := 9) (i := 1) dX4_bestPlace_8 rfl rfl rfl ?_
            refine SW.getI (q := 12) (i := 1) fX4_27 rfl rfl dX4_bestPlace_9 rfl ?_
            refine SW.icmp_ge (q := 15) (tgt := 75) dX4_bestPlace_12 (by decide) rfl (fun c12 => absurd c12 ((by rw [hpl]; exact nI_ge (by omega) (by omega)))) (fun _ => ?_)
            refine SW.aload_n (q := 16) (i := 0) dX4_bestPlace_15 rfl rfl rfl ?_
            refine SW.getR (q := 19) (i := 4) (j := 26) fX4_14 rfl rfl dX4_bestPlace_16 rfl ?_
            refine SW.iload (q := 21) (i := 4) dX4_bestPlace_19 rfl rfl ?_
            refine SW.cF (q := 24) (C_X3_atn (i := 26) (j := 52) (n := 576) rfl rfl (k := p) rfl (by omega)) vX4_49 (by decide) rfl rfl rfl rfl (Nat.le_of_ble_eq_true rfl) dX4_bestPlace_21 rfl ?_
            refine SW.bipush (q := 26) (v := (-6)) dX4_bestPlace_24 (by decide) rfl ?_
            refine SW.icmp_eq (q := 29) (tgt := 69) dX4_bestPlace_26 (by decide) rfl (fun c26 => absurd c26 (hw)) (fun _ => ?_)
            refine SW.aload_n (q := 30) (i := 0) dX4_bestPlace_29 rfl rfl rfl ?_
            refine SW.aload_n (q := 31) (i := 1) dX4_bestPlace_30 rfl rfl rfl ?_
            refine SW.iload (q := 33) (i := 4) dX4_bestPlace_31 rfl rfl ?_
            refine SW.iload_n (q := 34) (i := 2) dX4_bestPlace_33 rfl rfl rfl ?_
            refine SW.cF (q := 37) (C_X4_isFarFromAll hT hc hL hr hq rfl hp rfl hg) vX4_71 (by decide) rfl rfl rfl rfl (Nat.le_of_ble_eq_true rfl) dX4_bestPlace_34 rfl ?_
            rw [hfar]
            refine SW.if_eq (q := 40) (tgt := 69) dX4_bestPlace_37 (by decide) rfl (fun c37 => absurd c37 ((by decide))) (fun _ => ?_)
            refine SW.iload_n (q := 41) (i := 3) dX4_bestPlace_40 rfl rfl rfl ?_
            refine SW.bipush (q := 43) (v := (-6)) dX4_bestPlace_41 (by decide) rfl ?_
            refine SW.icmp_eq (q := 46) (tgt := 66) dX4_bestPlace_43 (by decide) rfl (fun c43 => absurd c43 ((by rw [bi]; exact nI_n6 (by omega)))) (fun _ => ?_)
            refine SW.aload_n (q := 47) (i := 0) dX4_bestPlace_46 rfl rfl rfl ?_
            refine SW.getR (q := 50) (i := 4) (j := 26) fX4_14 rfl rfl dX4_bestPlace_47 rfl ?_
            refine SW.iload (q := 52) (i := 4) dX4_bestPlace_50 rfl rfl ?_
            refine SW.cF (q := 55) (C_X3_atn (i := 26) (j := 52) (n := 576) rfl rfl (k := p) rfl (by omega)) vX4_49 (by decide) rfl rfl rfl rfl (Nat.le_of_ble_eq_true rfl) dX4_bestPlace_52 rfl ?_
            refine SW.aload_n (q := 56) (i := 0) dX4_bestPlace_55 rfl rfl rfl ?_
            refine SW.getR (q := 59) (i := 4) (j := 26) fX4_14 rfl rfl dX4_bestPlace_56 rfl ?_
            refine SW.iload_n (q := 60) (i := 3) dX4_bestPlace_59 rfl rfl rfl ?_
            refine SW.cF (q := 63) (C_X3_atn (i := 26) (j := 52) (n := 576) rfl rfl (k := b) bi (by omega)) vX4_49 (by decide) rfl rfl rfl rfl (Nat.le_of_ble_eq_true rfl) dX4_bestPlace_60 rfl ?_
            refine SW.icmp_le (q := 66) (tgt := 69) dX4_bestPlace_63 (by decide) rfl (fun _ => ?_) (fun c63 => absurd ((Int32.not_lt.mp hlt)) c63)
            refine SW.iinc (q := 72) (v := _ + 1) dX4_bestPlace_69 rfl rfl (by decide) rfl ?_
            refine SW.goto (q := 6) dX4_bestPlace_72 (by decide) ?_
            exact SW.eq (by rw [nI_1]; rfl) rfl rfl (keep ek _ (by rw [hb]))
  refine SW.bipush (q := 2) (v := (-6)) dX4_bestPlace_0 (by decide) rfl ?_
  refine SW.istore_n (q := 3) (i := 3) dX4_bestPlace_2 rfl (by decide) rfl ?_
  refine SW.iconst (q := 4) (v := 0) dX4_bestPlace_3 (by decide) rfl ?_
  refine SW.istore (q := 6) (i := 4) dX4_bestPlace_4 (by decide) rfl ?_
  exact loop (n * n) 0 (by omega)
theorem C_X4_found (hT : gr_T σ n) (hw6 : wn ≤ 6) (hg : g ≤ 12) :
    sw_Mv X 4 mX4_found [.ref (sw_ad X 4), .ref (sw_ad X 1), .ref (sw_ad X 2), .int (nI wn), .int (nI g)] σ (fun u => fr_ [4, 52, 53] σ u ∧ (∀ p, p < n * n → u 52 p = tw_worth n (σ 40) (σ 48) (σ 43) p) ∧ u 4 2 = nI (tw_run n g (tw_worth n (σ 40) (σ 48) (σ 43)) wn []).length ∧ tw_row 53 (tw_run n g (tw_worth n (σ 40) (σ 48) (σ 43)) wn []) u) := by
  have n24 : n ≤ 24 := hT.2.1
  have h576 := gr_576 n24
  have hpl : σ 1 2 = nI (n * n) := hT.2.2.2.1
  refine sw_ME.ofF (by decide +kernel) rfl (Nat.le_of_ble_eq_true rfl) rfl ?_
  have L2 : ∀ (σ1 : sw_Sg), fr_ [4, 52] σ σ1 → (∀ p, p < n * n → σ1 52 p = tw_worth n (σ 40) (σ 48) (σ 43) p) → ∀ (k t : Nat), t + k = wn → ∀ (B : Value) (τ : sw_Sg) (L : List Nat), fr_ [4, 53] σ1 τ → L.length = t → τ 4 2 = nI L.length → tw_row 53 L τ → tw_ok n g (tw_worth n (σ 40) (σ 48) (σ 43)) L → tw_run n g (tw_worth n (σ 40) (σ 48) (σ 43)) k L = tw_run n g (tw_worth n (σ 40) (σ 48) (σ 43)) wn [] →
      SW X 4 mX4_found sw_E0 (sw_Rv (fun u => fr_ [4, 52, 53] σ u ∧ (∀ p, p < n * n → u 52 p = tw_worth n (σ 40) (σ 48) (σ 43) p) ∧ u 4 2 = nI (tw_run n g (tw_worth n (σ 40) (σ 48) (σ 43)) wn []).length ∧ tw_row 53 (tw_run n g (tw_worth n (σ 40) (σ 48) (σ 43)) wn []) u)) 42 [.ref (sw_ad X 4), .ref (sw_ad X 1), .ref (sw_ad X 2), .int (nI wn), .int (nI g), .int (nI t), B] [] τ := by
    intro σ1 f1 hW k
    induction k with
    | zero =>
      intro t ht B τ L f2 hlen hcnt hrow hok hrun
      obtain rfl : t = wn := by omega
      simp only [tw_run] at hrun
      refine SW.iload (q := 44) (i := 5) dX4_found_42 rfl rfl ?_
      refine SW.iload_n (q := 45) (i := 3) dX4_found_44 rfl rfl rfl ?_
      refine SW.icmp_ge (q := 48) (tgt := 96) dX4_found_45 (by decide) rfl (fun _ => ?_) (fun c45 => absurd ((Int32.le_refl _)) c45)
      refine SW.vretR rfl dX4_found_96 ?_
      refine ⟨fr_tr (fr_sub f1 (by decide)) f2 (by decide), fun p hp => by rw [f2 52 (by decide)]; exact hW p hp, ?_, ?_⟩
      · rw [← hrun]; exact hcnt
      · rw [← hrun]; exact hrow
    | succ k ih =>
      intro t ht B τ L f2 hlen hcnt hrow hok hrun
      have f3 : fr_ [4, 52, 53] σ τ := fr_tr (fr_sub f1 (by decide)) f2 (by decide)
      have hT3 := hT.fr f3 (by decide) (by decide) (by decide)
      have en : tw_next n g (τ 52) L = tw_next n g (tw_worth n (σ 40) (σ 48) (σ 43)) L := tw_next_congr (fun p hp => by rw [f2 52 (by decide)]; exact hW p hp) L
      simp only [tw_run] at hrun
      cases hb : tw_next n g (tw_worth n (σ 40) (σ 48) (σ 43)) L with
      | none =>
        rw [hb] at hrun
        simp only at hrun
        refine SW.iload (q := 44) (i := 5) dX4_found_42 rfl rfl ?_
        refine SW.iload_n (q := 45) (i := 3) dX4_found_44 rfl rfl rfl ?_
        refine SW.icmp_ge (q := 48) (tgt := 96) dX4_found_45 (by decide) rfl (fun c45 => absurd c45 ((nI_ge (by omega) (by omega)))) (fun _ => ?_)
        refine SW.aload_n (q := 49) (i := 0) dX4_found_48 rfl rfl rfl ?_
        refine SW.aload_n (q := 50) (i := 1) dX4_found_49 rfl rfl rfl ?_
        refine SW.iload (q := 52) (i := 4) dX4_found_50 rfl rfl ?_
        refine SW.cF (q := 55) (C_X4_bestPlace hT3 hcnt (by omega) hrow (fun t q hq => (hok.1 t q hq).1) rfl hg) vX4_40 (by decide) rfl rfl rfl rfl (Nat.le_of_ble_eq_true rfl) dX4_found_52 rfl ?_
        rw [en, hb]
        refine SW.istore (q := 57) (i := 6) dX4_found_55 (by decide) rfl ?_
        refine SW.iload (q := 59) (i := 6) dX4_found_57 rfl rfl ?_
        refine SW.bipush (q := 61) (v := (-6)) dX4_found_59 (by decide) rfl ?_
        refine SW.icmp_ne (q := 64) (tgt := 67) dX4_found_61 (by decide) rfl (fun c61 => absurd (rfl) c61) (fun _ => ?_)
        refine SW.goto (q := 96) dX4_found_64 (by decide) ?_
        refine SW.vretR rfl dX4_found_96 ?_
        refine ⟨f3, fun p hp => by rw [f2 52 (by decide)]; exact hW p hp, ?_, ?_⟩
        · rw [← hrun]; exact hcnt
        · rw [← hrun]; exact hrow
      | some b =>
        rw [hb] at hrun
        simp only at hrun
        have bl := (tw_best_lt _ _ hb).1
        have bi : gr_v (some b) = nI b := rfl
        have okn : tw_ok n g (tw_worth n (σ 40) (σ 48) (σ 43)) (L ++ [b]) := by
          have := tw_run_ok (n := n) (g := g) (W := tw_worth n (σ 40) (σ 48) (σ 43)) 1 L hok
          simp only [tw_run, hb] at this
          exact this
        refine SW.iload (q := 44) (i := 5) dX4_found_42 rfl rfl ?_
        refine SW.iload_n (q := 45) (i := 3) dX4_found_44 rfl rfl rfl ?_
        refine SW.icmp_ge (q := 48) (tgt := 96) dX4_found_45 (by decide) rfl (fun c45 => absurd c45 ((nI_ge (by omega) (by omega)))) (fun _ => ?_)
        refine SW.aload_n (q := 49) (i := 0) dX4_found_48 rfl rfl rfl ?_
        refine SW.aload_n (q := 50) (i := 1) dX4_found_49 rfl rfl rfl ?_
        refine SW.iload (q := 52) (i := 4) dX4_found_50 rfl rfl ?_
        refine SW.cF (q := 55) (C_X4_bestPlace hT3 hcnt (by omega) hrow (fun t q hq => (hok.1 t q hq).1) rfl hg) vX4_40 (by decide) rfl rfl rfl rfl (Nat.le_of_ble_eq_true rfl) dX4_found_52 rfl ?_
        rw [en, hb, bi]
        refine SW.istore (q := 57) (i := 6) dX4_found_55 (by decide) rfl ?_
        refine SW.iload (q := 59) (i := 6) dX4_found_57 rfl rfl ?_
        refine SW.bipush (q := 61) (v := (-6)) dX4_found_59 (by decide) rfl ?_
        refine SW.icmp_ne (q := 64) (tgt := 67) dX4_found_61 (by decide) rfl (fun _ => ?_) (fun c61 => absurd c61 ((nI_n6 (by omega))))
        refine SW.aload_n (q := 68) (i := 0) dX4_found_67 rfl rfl rfl ?_
        refine SW.getR (q := 71) (i := 4) (j := 27) fX4_20 rfl rfl dX4_found_68 rfl ?_
        refine SW.aload_n (q := 72) (i := 0) dX4_found_71 rfl rfl rfl ?_
        refine SW.getI (q := 75) (i := 4) fX4_23 rfl rfl dX4_found_72 rfl ?_
        refine SW.iload (q := 77) (i := 6) dX4_found_75 rfl rfl ?_
        refine SW.cG (q := 80) (C_X3_putn (i := 27) (j := 53) (n := 6) rfl rfl (k := L.length) hcnt (by omega)) vX4_36 (by decide) rfl rfl rfl rfl (Nat.le_of_ble_eq_true rfl) dX4_found_77 rfl ?_
        refine SW.aload_n (q := 81) (i := 0) dX4_found_80 rfl rfl rfl ?_
        refine SW.dup (q := 82) dX4_found_81 rfl rfl ?_
        refine SW.getI (q := 85) (i := 4) fX4_23 rfl rfl dX4_found_82 rfl ?_
        refine SW.iconst (q := 86) (v := 1) dX4_found_85 (by decide) rfl ?_
        refine SW.iadd (q := 87) dX4_found_86 rfl ?_
        refine SW.putI (q := 90) (i := 4) pX4_23 rfl rfl dX4_found_87 rfl ?_
        refine SW.iinc (q := 93) (v := _ + 1) dX4_found_90 rfl rfl (by decide) rfl ?_
        refine SW.goto (q := 42) dX4_found_93 (by decide) ?_
        refine SW.eq (by rw [nI_1]; rfl) rfl rfl (ih (t + 1) (by omega) _ _ (L ++ [b]) (fr_up (fr_up f2 (by decide)) (by decide)) (by rw [List.length_append]; simp [hlen]) ?_ ?_ okn hrun)
        · rw [sw_i1, sw_un (by decide), hcnt, nI_1, List.length_append]; rfl
        · exact (hrow.snoc).fr (l := [4]) (fr_up fr_rf (by decide)) (by decide)
  have L1 : ∀ (k p : Nat), p + k = n * n → ∀ (B : Value) (τ : sw_Sg), fr_ [52] σ τ → (∀ q, q < p → τ 52 q = tw_worth n (σ 40) (σ 48) (σ 43) q) →
      SW X 4 mX4_found sw_E0 (sw_Rv (fun u => fr_ [4, 52, 53] σ u ∧ (∀ p, p < n * n → u 52 p = tw_worth n (σ 40) (σ 48) (σ 43) p) ∧ u 4 2 = nI (tw_run n g (tw_worth n (σ 40) (σ 48) (σ 43)) wn []).length ∧ tw_row 53 (tw_run n g (tw_worth n (σ 40) (σ 48) (σ 43)) wn []) u)) 3 [.ref (sw_ad X 4), .ref (sw_ad X 1), .ref (sw_ad X 2), .int (nI wn), .int (nI g), .int (nI p), B] [] τ := by
    intro k
    induction k with
    | zero =>
      intro p hpk B τ hf hI
      obtain rfl : p = n * n := by omega
      refine SW.iload (q := 5) (i := 5) dX4_found_3 rfl rfl ?_
      refine SW.aload_n (q := 6) (i := 1) dX4_found_5 rfl rfl rfl ?_
      refine SW.getI (q := 9) (i := 1) fX4_27 rfl rfl dX4_found_6 rfl ?_
      refine SW.icmp_ge (q := 12) (tgt := 34) dX4_found_9 (by decide) rfl (fun _ => ?_) (fun c9 => absurd ((by rw [hf 1 (by decide), hpl]; exact Int32.le_refl _)) c9)
      refine SW.aload_n (q := 35) (i := 0) dX4_found_34 rfl rfl rfl ?_
      refine SW.iconst (q := 36) (v := 0) dX4_found_35 (by decide) rfl ?_
      refine SW.putI (q := 39) (i := 4) pX4_23 rfl rfl dX4_found_36 rfl ?_
      refine SW.iconst (q := 40) (v := 0) dX4_found_39 (by decide) rfl ?_
      refine SW.istore (q := 42) (i := 5) dX4_found_40 (by decide) rfl ?_
      exact L2 _ (fr_up (fr_sub hf (by decide)) (by decide)) (fun p hp => by rw [sw_un (by decide)]; exact hI p hp) wn 0 (by omega) _ _ [] fr_rf rfl (by rw [sw_i1]; rfl) (fun t q hq => by cases hq) ⟨fun i q hq => (by cases hq), fun i j p q _ hq => (by cases hq)⟩ rfl
    | succ k ih =>
      intro p hpk B τ hf hI
      have hp : p < n * n := by omega
      refine SW.iload (q := 5) (i := 5) dX4_found_3 rfl rfl ?_
      refine SW.aload_n (q := 6) (i := 1) dX4_found_5 rfl rfl rfl ?_
      refine SW.getI (q := 9) (i := 1) fX4_27 rfl rfl dX4_found_6 rfl ?_
      refine SW.icmp_ge (q := 12) (tgt := 34) dX4_found_9 (by decide) rfl (fun c9 => absurd c9 ((by rw [hf 1 (by decide), hpl]; exact nI_ge (by omega) (by omega)))) (fun _ => ?_)
      refine SW.aload_n (q := 13) (i := 0) dX4_found_12 rfl rfl rfl ?_
      refine SW.getR (q := 16) (i := 4) (j := 26) fX4_14 rfl rfl dX4_found_13 rfl ?_
      refine SW.iload (q := 18) (i := 5) dX4_found_16 rfl rfl ?_
      refine SW.aload_n (q := 19) (i := 1) dX4_found_18 rfl rfl rfl ?_
      refine SW.aload_n (q := 20) (i := 2) dX4_found_19 rfl rfl rfl ?_
      refine SW.iload (q := 22) (i := 5) dX4_found_20 rfl rfl ?_
      refine SW.sF (q := 25) (C_X4_worthOf (hT.fr hf (by decide) (by decide) (by decide)) rfl hp) vX4_32 (by decide) rfl rfl (Nat.le_of_ble_eq_true rfl) dX4_found_22 rfl ?_
      refine SW.cG (q := 28) (C_X3_putn (i := 26) (j := 52) (n := 576) rfl rfl (k := p) rfl (by omega)) vX4_36 (by decide) rfl rfl rfl rfl (Nat.le_of_ble_eq_true rfl) dX4_found_25 rfl ?_
      refine SW.iinc (q := 31) (v := _ + 1) dX4_found_28 rfl rfl (by decide) rfl ?_
      refine SW.goto (q := 3) dX4_found_31 (by decide) ?_
      refine SW.eq (by rw [nI_1]; rfl) rfl rfl (ih (p + 1) (by omega) _ _ (fr_up hf (by decide)) (fun q hq => ?_))
      by_cases z : q = p
      · subst z; rw [sw_i1, hf 40 (by decide), hf 48 (by decide), hf 43 (by decide)]
      · rw [sw_o1 z]; exact hI q (by omega)
  refine SW.iconst (q := 1) (v := 0) dX4_found_0 (by decide) rfl ?_
  refine SW.istore (q := 3) (i := 5) dX4_found_1 (by decide) rfl ?_
  exact L1 (n * n) 0 (by omega) _ σ fr_rf (fun q hq => absurd hq (Nat.not_lt_zero _))
end FOUND
