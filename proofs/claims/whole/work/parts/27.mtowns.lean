/-! TOWNS in the reference; a town's place in the class -/
section MTOWNS
variable {X : sw_X} {σ : sw_Sg} {x y v w st : Int32} {n p q g k wn : Nat} {L : List Nat} {W : Nat → Int32}
theorem C_X4_isAt (hc : σ 4 2 = nI L.length) (hL : L.length ≤ 6) (hr : tw_row 53 L σ) (hq : ∀ t q : Nat, L[t]? = some q → q < 576) (hx : x = nI p) (hp : p < 576) :
    sw_F X 1 mX4_isAt [.ref (sw_ad X 4), .int x] σ (sw_b (decide (p ∈ L))) σ := by
  subst hx
  refine sw_ME.ofF (by decide +kernel) rfl (Nat.le_of_ble_eq_true rfl) rfl ?_
  have loop : ∀ (k t : Nat), t + k = L.length → (∀ i : Nat, i < t → ¬ L[i]? = some p) → SW X 1 mX4_isAt sw_E0 (sw_Ri (fun r u => r = sw_b (decide (p ∈ L)) ∧ u = σ)) 2 [.ref (sw_ad X 4), .int (nI p), .int (nI t)] [] σ := by
    intro k
    induction k with
    | zero =>
      intro t ht hI
      obtain rfl : t = L.length := by omega
      refine SW.iload_n (q := 3) (i := 2) dX4_isAt_2 rfl rfl rfl ?_
      refine SW.aload_n (q := 4) (i := 0) dX4_isAt_3 rfl rfl rfl ?_
      refine SW.getI (q := 7) (i := 4) fX4_23 rfl rfl dX4_isAt_4 rfl ?_
      refine SW.icmp_ge (q := 10) (tgt := 30) dX4_isAt_7 (by decide) rfl (fun _ => ?_) (fun c7 => absurd ((by rw [hc]; exact Int32.le_refl _)) c7)
      refine SW.iconst (q := 31) (v := 0) dX4_isAt_30 (by decide) rfl ?_
      refine SW.iretR rfl rfl dX4_isAt_31 ?_
      refine ⟨?_, rfl⟩
      rw [decide_eq_false]
      · rfl
      · intro hm
        obtain ⟨i, hi⟩ := List.getElem?_of_mem hm
        exact hI i (List.getElem?_eq_some_iff.mp hi).1 hi
    | succ k ih =>
      intro t ht hI
      obtain ⟨q, hqt⟩ := getD_some (L := L) (t := t) (by omega)
      have ql := hq t q hqt
      by_cases e : q = p
      · subst e
        refine SW.iload_n (q := 3) (i := 2) dX4_isAt_2 rfl rfl rfl ?_
        refine SW.aload_n (q := 4) (i := 0) dX4_isAt_3 rfl rfl rfl ?_
        refine SW.getI (q := 7) (i := 4) fX4_23 rfl rfl dX4_isAt_4 rfl ?_
        refine SW.icmp_ge (q := 10) (tgt := 30) dX4_isAt_7 (by decide) rfl (fun c7 => absurd c7 ((by rw [hc]; exact nI_ge (by omega) (by omega)))) (fun _ => ?_)
        refine SW.aload_n (q := 11) (i := 0) dX4_isAt_10 rfl rfl rfl ?_
        refine SW.getR (q := 14) (i := 4) (j := 27) fX4_20 rfl rfl dX4_isAt_11 rfl ?_
        refine SW.iload_n (q := 15) (i := 2) dX4_isAt_14 rfl rfl rfl ?_
        refine SW.cF (q := 18) (C_X3_atn (i := 27) (j := 53) (n := 6) rfl rfl (k := t) rfl (by omega)) vX4_49 (by decide) rfl rfl rfl rfl (Nat.le_of_ble_eq_true rfl) dX4_isAt_15 rfl ?_
        refine SW.iload_n (q := 19) (i := 1) dX4_isAt_18 rfl rfl rfl ?_
        refine SW.icmp_ne (q := 22) (tgt := 24) dX4_isAt_19 (by decide) rfl (fun c19 => absurd ((hr t q hqt)) c19) (fun _ => ?_)
        refine SW.iconst (q := 23) (v := 1) dX4_isAt_22 (by decide) rfl ?_
        refine SW.iretR rfl rfl dX4_isAt_23 ?_
        exact ⟨by rw [decide_eq_true (List.mem_of_getElem? hqt)]; rfl, rfl⟩
      · refine SW.iload_n (q := 3) (i := 2) dX4_isAt_2 rfl rfl rfl ?_
        refine SW.aload_n (q := 4) (i := 0) dX4_isAt_3 rfl rfl rfl ?_
        refine SW.getI (q := 7) (i := 4) fX4_23 rfl rfl dX4_isAt_4 rfl ?_
        refine SW.icmp_ge (q := 10) (tgt := 30) dX4_isAt_7 (by decide) rfl (fun c7 => absurd c7 ((by rw [hc]; exact nI_ge (by omega) (by omega)))) (fun _ => ?_)
        refine SW.aload_n (q := 11) (i := 0) dX4_isAt_10 rfl rfl rfl ?_
        refine SW.getR (q := 14) (i := 4) (j := 27) fX4_20 rfl rfl dX4_isAt_11 rfl ?_
        refine SW.iload_n (q := 15) (i := 2) dX4_isAt_14 rfl rfl rfl ?_
        refine SW.cF (q := 18) (C_X3_atn (i := 27) (j := 53) (n := 6) rfl rfl (k := t) rfl (by omega)) vX4_49 (by decide) rfl rfl rfl rfl (Nat.le_of_ble_eq_true rfl) dX4_isAt_15 rfl ?_
        refine SW.iload_n (q := 19) (i := 1) dX4_isAt_18 rfl rfl rfl ?_
        refine SW.icmp_ne (q := 22) (tgt := 24) dX4_isAt_19 (by decide) rfl (fun _ => ?_) (fun c19 => absurd c19 ((by rw [hr t q hqt, nI_eq (by omega) (by omega)]; exact e)))
        refine SW.iinc (q := 27) (v := _ + 1) dX4_isAt_24 rfl rfl (by decide) rfl ?_
        refine SW.goto (q := 2) dX4_isAt_27 (by decide) ?_
        refine SW.eq (by rw [nI_1]; rfl) rfl rfl (ih (t + 1) (by omega) (fun i hi => ?_))
        by_cases z : i = t
        · subst z; rw [hqt]; intro h; cases h; exact e rfl
        · exact hI i (by omega)
  refine SW.iconst (q := 1) (v := 0) dX4_isAt_0 (by decide) rfl ?_
  refine SW.istore_n (q := 2) (i := 2) dX4_isAt_1 rfl (by decide) rfl ?_
  exact loop L.length 0 (by omega) (fun i hi => absurd hi (Nat.not_lt_zero _))
theorem C_X8_isFar (hM : gr_M σ n) (hc : σ 59 19 = nI L.length) (hL : L.length ≤ 6) (hr : tw_row 71 L σ) (hq : ∀ t q : Nat, L[t]? = some q → q < n * n) (hx : x = nI p) (hp : p < n * n) (hg2 : σ 60 2 = nI g) (hg : g ≤ 12) :
    sw_F X 1 mX8_isFar [.ref (sw_ad X 59), .int x] σ (sw_b (tw_far n g L p)) σ := by
  subst hx
  have n24 : n ≤ 24 := hM.2.1
  have h576 := gr_576 n24
  obtain ⟨l1, l2, l3⟩ := gr_lt hp
  have en : σ 59 1 = nI n := hM.2.2
  have hne : ¬ σ 59 1 = 0 := by rw [en]; exact nI_ne0 l3 (by omega)
  have ex : nI p - nI p / nI n * nI n = nI (p % n) := pk_rem (by omega) l3 (by omega)
  have ey : nI p / nI n = nI (p / n) := pk_div (by omega) l3 (by omega)
  refine sw_ME.ofF (by decide +kernel) rfl (Nat.le_of_ble_eq_true rfl) rfl ?_
  have loop : ∀ (k t : Nat), t + k = L.length → ∀ (A B : Value), SW X 1 mX8_isFar sw_E0 (sw_Ri (fun r u => r = sw_b (tw_far n g L p) ∧ u = σ)) 4 [.ref (sw_ad X 59), .int (nI p), .int (sw_b (tw_far n g (L.take t) p)), .int (nI t), A, B] [] σ := by
    intro k
    induction k with
    | zero =>
      intro t ht A B
      obtain rfl : t = L.length := by omega
      refine SW.iload_n (q := 5) (i := 3) dX8_isFar_4 rfl rfl rfl ?_
      refine SW.aload_n (q := 6) (i := 0) dX8_isFar_5 rfl rfl rfl ?_
      refine SW.getI (q := 9) (i := 59) fX8_134 rfl rfl dX8_isFar_6 rfl ?_
      refine SW.icmp_ge (q := 12) (tgt := 104) dX8_isFar_9 (by decide) rfl (fun _ => ?_) (fun c9 => absurd ((by rw [hc]; exact Int32.le_refl _)) c9)
      refine SW.iload_n (q := 105) (i := 2) dX8_isFar_104 rfl rfl rfl ?_
      refine SW.iretR rfl (by unfold sw_b; split <;> rfl) dX8_isFar_105 ?_
      exact ⟨by rw [List.take_length], rfl⟩
    | succ k ih =>
      intro t ht A B
      obtain ⟨q, hqt⟩ := getD_some (L := L) (t := t) (by omega)
      have ql := hq t q hqt
      obtain ⟨m1, m2, m3⟩ := gr_lt ql
      have fx : nI q - nI q / nI n * nI n = nI (q % n) := pk_rem (by omega) l3 (by omega)
      have fy : nI q / nI n = nI (q / n) := pk_div (by omega) l3 (by omega)
      have ax := gr_abs_e (a := p % n) (b := q % n) (by omega) (by omega)
      have ay := gr_abs_e (a := p / n) (b := q / n) (by omega) (by omega)
      unfold sw_abs at ax ay
      have tk : tw_far n g (L.take (t + 1)) p = (tw_far n g (L.take t) p && decide (g ≤ gr_dist n p q)) := by
        unfold tw_far
        rw [List.take_succ, hqt, List.all_append]
        simp
      have hd : gr_dist n p q < 2 ^ 20 := by
        unfold gr_dist gr_abs
        generalize p / n = u1 at *
        generalize p % n = u2 at *
        generalize q / n = u3 at *
        generalize q % n = u4 at *
        split <;> split <;> omega
      have next : ∀ w, w = sw_b (tw_far n g (L.take (t + 1)) p) → ∀ A B, SW X 1 mX8_isFar sw_E0 (sw_Ri (fun r u => r = sw_b (tw_far n g L p) ∧ u = σ)) 4 [.ref (sw_ad X 59), .int (nI p), .int w, .int (nI (t + 1)), A, B] [] σ := by
        rintro w rfl A B
        exact ih (t + 1) (by omega) A B
      have e1 : nI p - nI p / σ 59 1 * σ 59 1 - (σ 71 t - σ 71 t / σ 59 1 * σ 59 1) = nI (p % n) - nI (q % n) := by rw [en, ex, hr t q hqt, fx]
      have e2 : nI p / σ 59 1 - σ 71 t / σ 59 1 = nI (p / n) - nI (q / n) := by rw [en, ey, hr t q hqt, fy]
      cases hf : tw_far n g (L.take t) p with
      | false =>
        refine SW.iload_n (q := 5) (i := 3) dX8_isFar_4 rfl rfl rfl ?_
        refine SW.aload_n (q := 6) (i := 0) dX8_isFar_5 rfl rfl rfl ?_
        refine SW.getI (q := 9) (i := 59) fX8_134 rfl rfl dX8_isFar_6 rfl ?_
        refine SW.icmp_ge (q := 12) (tgt := 104) dX8_isFar_9 (by decide) rfl (fun c9 => absurd c9 ((by rw [hc]; exact nI_ge (by omega) (by omega)))) (fun _ => ?_)
        refine SW.iload_n (q := 13) (i := 1) dX8_isFar_12 rfl rfl rfl ?_
        refine SW.aload_n (q := 14) (i := 0) dX8_isFar_13 rfl rfl rfl ?_
        refine SW.getI (q := 17) (i := 59) fX8_7 rfl rfl dX8_isFar_14 rfl ?_
        refine SW.irem (q := 18) dX8_isFar_17 hne rfl ?_
        refine SW.aload_n (q := 19) (i := 0) dX8_isFar_18 rfl rfl rfl ?_
        refine SW.getR (q := 22) (i := 59) (j := 71) fX8_47 rfl rfl dX8_isFar_19 rfl ?_
        refine SW.iload_n (q := 23) (i := 3) dX8_isFar_22 rfl rfl rfl ?_
        refine SW.ialdN (q := 24) (k := t) rfl (rfl) (by omega) (by decide) dX8_isFar_23 rfl ?_
        refine SW.aload_n (q := 25) (i := 0) dX8_isFar_24 rfl rfl rfl ?_
        refine SW.getI (q := 28) (i := 59) fX8_7 rfl rfl dX8_isFar_25 rfl ?_
        refine SW.irem (q := 29) dX8_isFar_28 hne rfl ?_
        refine SW.isub (q := 30) dX8_isFar_29 rfl ?_
        refine SW.istore (q := 32) (i := 4) dX8_isFar_30 (by decide) rfl ?_
        refine SW.iload_n (q := 33) (i := 1) dX8_isFar_32 rfl rfl rfl ?_
        refine SW.aload_n (q := 34) (i := 0) dX8_isFar_33 rfl rfl rfl ?_
        refine SW.getI (q := 37) (i := 59) fX8_7 rfl rfl dX8_isFar_34 rfl ?_
        refine SW.idiv (q := 38) dX8_isFar_37 hne rfl ?_
        refine SW.aload_n (q := 39) (i := 0) dX8_isFar_38 rfl rfl rfl ?_
        refine SW.getR (q := 42) (i := 59) (j := 71) fX8_47 rfl rfl dX8_isFar_39 rfl ?_
        refine SW.iload_n (q := 43) (i := 3) dX8_isFar_42 rfl rfl rfl ?_
        refine SW.ialdN (q := 44) (k := t) rfl (rfl) (by omega) (by decide) dX8_isFar_43 rfl ?_
        refine SW.aload_n (q := 45) (i := 0) dX8_isFar_44 rfl rfl rfl ?_
        refine SW.getI (q := 48) (i := 59) fX8_7 rfl rfl dX8_isFar_45 rfl ?_
        refine SW.idiv (q := 49) dX8_isFar_48 hne rfl ?_
        refine SW.isub (q := 50) dX8_isFar_49 rfl ?_
        refine SW.istore (q := 52) (i := 5) dX8_isFar_50 (by decide) rfl ?_
        refine SW.iload_n (q := 53) (i := 2) dX8_isFar_52 rfl rfl rfl ?_
        refine SW.if_eq (q := 56) (tgt := 96) dX8_isFar_53 (by decide) rfl (fun _ => ?_) (fun c53 => absurd (rfl) c53)
        refine SW.iconst (q := 97) (v := 0) dX8_isFar_96 (by decide) rfl ?_
        refine SW.istore_n (q := 98) (i := 2) dX8_isFar_97 rfl (by decide) rfl ?_
        refine SW.iinc (q := 101) (v := _ + 1) dX8_isFar_98 rfl rfl (by decide) rfl ?_
        refine SW.goto (q := 4) dX8_isFar_101 (by decide) ?_
        exact SW.eq (by rw [nI_1]; rfl) rfl rfl (next 0 (by rw [tk, hf]; rfl) _ _)
      | true =>
        have J : ∀ a b, a = nI (gr_abs (p % n) (q % n)) → b = nI (gr_abs (p / n) (q / n)) → ∀ L' : List Value, L' = [.ref (sw_ad X 59), .int (nI p), .int (sw_b true), .int (nI t), .int (nI (p % n) - nI (q % n)), .int (nI (p / n) - nI (q / n))] → SW X 1 mX8_isFar sw_E0 (sw_Ri (fun r u => r = sw_b (tw_far n g L p) ∧ u = σ)) 82 L' [.int b, .int a] σ := by
          rintro a b rfl rfl L' rfl
          have hsum : nI (gr_abs (p % n) (q % n)) + nI (gr_abs (p / n) (q / n)) = nI (gr_dist n p q) := nI_add _ _
          by_cases hgd : g ≤ gr_dist n p q
          · refine SW.iadd (q := 83) dX8_isFar_82 rfl ?_
            refine SW.aload_n (q := 84) (i := 0) dX8_isFar_83 rfl rfl rfl ?_
            refine SW.getR (q := 87) (i := 59) (j := 60) fX8_13 rfl rfl dX8_isFar_84 rfl ?_
            refine SW.iconst (q := 88) (v := 2) dX8_isFar_87 (by decide) rfl ?_
            refine SW.ialdN (q := 89) (k := 2) rfl (rfl) (by decide) (by decide) dX8_isFar_88 rfl ?_
            refine SW.icmp_lt (q := 92) (tgt := 96) dX8_isFar_89 (by decide) rfl (fun c89 => absurd c89 ((by rw [hsum, hg2]; exact nI_nlt hgd (by omega)))) (fun _ => ?_)
            refine SW.iconst (q := 93) (v := 1) dX8_isFar_92 (by decide) rfl ?_
            refine SW.goto (q := 97) dX8_isFar_93 (by decide) ?_
            refine SW.istore_n (q := 98) (i := 2) dX8_isFar_97 rfl (by decide) rfl ?_
            refine SW.iinc (q := 101) (v := _ + 1) dX8_isFar_98 rfl rfl (by decide) rfl ?_
            refine SW.goto (q := 4) dX8_isFar_101 (by decide) ?_
            exact SW.eq (by rw [nI_1]; rfl) rfl rfl (next 1 (by rw [tk, hf, decide_eq_true hgd]; rfl) _ _)
          · refine SW.iadd (q := 83) dX8_isFar_82 rfl ?_
            refine SW.aload_n (q := 84) (i := 0) dX8_isFar_83 rfl rfl rfl ?_
            refine SW.getR (q := 87) (i := 59) (j := 60) fX8_13 rfl rfl dX8_isFar_84 rfl ?_
            refine SW.iconst (q := 88) (v := 2) dX8_isFar_87 (by decide) rfl ?_
            refine SW.ialdN (q := 89) (k := 2) rfl (rfl) (by decide) (by decide) dX8_isFar_88 rfl ?_
            refine SW.icmp_lt (q := 92) (tgt := 96) dX8_isFar_89 (by decide) rfl (fun _ => ?_) (fun c89 => absurd ((by rw [hsum, hg2]; exact nI_lt (by omega) (by omega))) c89)
            refine SW.iconst (q := 97) (v := 0) dX8_isFar_96 (by decide) rfl ?_
            refine SW.istore_n (q := 98) (i := 2) dX8_isFar_97 rfl (by decide) rfl ?_
            refine SW.iinc (q := 101) (v := _ + 1) dX8_isFar_98 rfl rfl (by decide) rfl ?_
            refine SW.goto (q := 4) dX8_isFar_101 (by decide) ?_
            exact SW.eq (by rw [nI_1]; rfl) rfl rfl (next 0 (by rw [tk, hf, decide_eq_false hgd]; rfl) _ _)
        refine SW.iload_n (q := 5) (i := 3) dX8_isFar_4 rfl rfl rfl ?_
        refine SW.aload_n (q := 6) (i := 0) dX8_isFar_5 rfl rfl rfl ?_
        refine SW.getI (q := 9) (i := 59) fX8_134 rfl rfl dX8_isFar_6 rfl ?_
        refine SW.icmp_ge (q := 12) (tgt := 104) dX8_isFar_9 (by decide) rfl (fun c9 => absurd c9 ((by rw [hc]; exact nI_ge (by omega) (by omega)))) (fun _ => ?_)
        refine SW.iload_n (q := 13) (i := 1) dX8_isFar_12 rfl rfl rfl ?_
        refine SW.aload_n (q := 14) (i := 0) dX8_isFar_13 rfl rfl rfl ?_
        refine SW.getI (q := 17) (i := 59) fX8_7 rfl rfl dX8_isFar_14 rfl ?_
        refine SW.irem (q := 18) dX8_isFar_17 hne rfl ?_
        refine SW.aload_n (q := 19) (i := 0) dX8_isFar_18 rfl rfl rfl ?_
        refine SW.getR (q := 22) (i := 59) (j := 71) fX8_47 rfl rfl dX8_isFar_19 rfl ?_
        refine SW.iload_n (q := 23) (i := 3) dX8_isFar_22 rfl rfl rfl ?_
        refine SW.ialdN (q := 24) (k := t) rfl (rfl) (by omega) (by decide) dX8_isFar_23 rfl ?_
        refine SW.aload_n (q := 25) (i := 0) dX8_isFar_24 rfl rfl rfl ?_
        refine SW.getI (q := 28) (i := 59) fX8_7 rfl rfl dX8_isFar_25 rfl ?_
        refine SW.irem (q := 29) dX8_isFar_28 hne rfl ?_
        refine SW.isub (q := 30) dX8_isFar_29 rfl ?_
        rw [e1]
        refine SW.istore (q := 32) (i := 4) dX8_isFar_30 (by decide) rfl ?_
        refine SW.iload_n (q := 33) (i := 1) dX8_isFar_32 rfl rfl rfl ?_
        refine SW.aload_n (q := 34) (i := 0) dX8_isFar_33 rfl rfl rfl ?_
        refine SW.getI (q := 37) (i := 59) fX8_7 rfl rfl dX8_isFar_34 rfl ?_
        refine SW.idiv (q := 38) dX8_isFar_37 hne rfl ?_
        refine SW.aload_n (q := 39) (i := 0) dX8_isFar_38 rfl rfl rfl ?_
        refine SW.getR (q := 42) (i := 59) (j := 71) fX8_47 rfl rfl dX8_isFar_39 rfl ?_
        refine SW.iload_n (q := 43) (i := 3) dX8_isFar_42 rfl rfl rfl ?_
        refine SW.ialdN (q := 44) (k := t) rfl (rfl) (by omega) (by decide) dX8_isFar_43 rfl ?_
        refine SW.aload_n (q := 45) (i := 0) dX8_isFar_44 rfl rfl rfl ?_
        refine SW.getI (q := 48) (i := 59) fX8_7 rfl rfl dX8_isFar_45 rfl ?_
        refine SW.idiv (q := 49) dX8_isFar_48 hne rfl ?_
        refine SW.isub (q := 50) dX8_isFar_49 rfl ?_
        rw [e2]
        refine SW.istore (q := 52) (i := 5) dX8_isFar_50 (by decide) rfl ?_
        refine SW.iload_n (q := 53) (i := 2) dX8_isFar_52 rfl rfl rfl ?_
        refine SW.if_eq (q := 56) (tgt := 96) dX8_isFar_53 (by decide) rfl (fun c53 => absurd c53 ((by decide))) (fun _ => ?_)
        refine SW.iload (q := 58) (i := 4) dX8_isFar_56 rfl rfl ?_
        refine SW.if_ge (q := 61) (tgt := 67) dX8_isFar_58 (by decide) rfl (fun c58 => ?_) (fun c58 => ?_)
        · refine SW.iload (q := 69) (i := 4) dX8_isFar_67 rfl rfl ?_
          refine SW.iload (q := 71) (i := 5) dX8_isFar_69 rfl rfl ?_
          refine SW.if_ge (q := 74) (tgt := 80) dX8_isFar_71 (by decide) rfl (fun c71 => ?_) (fun c71 => ?_)
          · refine SW.iload (q := 82) (i := 5) dX8_isFar_80 rfl rfl ?_
            first
            | exact J _ _ (by rw [if_pos c58] at ax; exact ax) (by rw [if_pos c71] at ay; exact ay) _ rfl
            | exact J _ _ (by rw [if_pos c58] at ax; exact ax) (by rw [if_neg c71] at ay; exact ay) _ rfl
            | exact J _ _ (by rw [if_neg c58] at ax; exact ax) (by rw [if_pos c71] at ay; exact ay) _ rfl
            | exact J _ _ (by rw [if_neg c58] at ax; exact ax) (by rw [if_neg c71] at ay; exact ay) _ rfl
          · refine SW.iload (q := 76) (i := 5) dX8_isFar_74 rfl rfl ?_
            refine SW.ineg (q := 77) dX8_isFar_76 rfl ?_
            refine SW.goto (q := 82) dX8_isFar_77 (by decide) ?_
            first
            | exact J _ _ (by rw [if_pos c58] at ax; exact ax) (by rw [if_pos c71] at ay; exact ay) _ rfl
            | exact J _ _ (by rw [if_pos c58] at ax; exact ax) (by rw [if_neg c71] at ay; exact ay) _ rfl
            | exact J _ _ (by rw [if_neg c58] at ax; exact ax) (by rw [if_pos c71] at ay; exact ay) _ rfl
            | exact J _ _ (by rw [if_neg c58] at ax; exact ax) (by rw [if_neg c71] at ay; exact ay) _ rfl
        · refine SW.iload (q := 63) (i := 4) dX8_isFar_61 rfl rfl ?_
          refine SW.ineg (q := 64) dX8_isFar_63 rfl ?_
          refine SW.goto (q := 69) dX8_isFar_64 (by decide) ?_
          refine SW.iload (q := 71) (i := 5) dX8_isFar_69 rfl rfl ?_
          refine SW.if_ge (q := 74) (tgt := 80) dX8_isFar_71 (by decide) rfl (fun c71 => ?_) (fun c71 => ?_)
          · refine SW.iload (q := 82) (i := 5) dX8_isFar_80 rfl rfl ?_
            first
            | exact J _ _ (by rw [if_pos c58] at ax; exact ax) (by rw [if_pos c71] at ay; exact ay) _ rfl
            | exact J _ _ (by rw [if_pos c58] at ax; exact ax) (by rw [if_neg c71] at ay; exact ay) _ rfl
            | exact J _ _ (by rw [if_neg c58] at ax; exact ax) (by rw [if_pos c71] at ay; exact ay) _ rfl
            | exact J _ _ (by rw [if_neg c58] at ax; exact ax) (by rw [if_neg c71] at ay; exact ay) _ rfl
          · refine SW.iload (q := 76) (i := 5) dX8_isFar_74 rfl rfl ?_
            refine SW.ineg (q := 77) dX8_isFar_76 rfl ?_
            refine SW.goto (q := 82) dX8_isFar_77 (by decide) ?_
            first
            | exact J _ _ (by rw [if_pos c58] at ax; exact ax) (by rw [if_pos c71] at ay; exact ay) _ rfl
            | exact J _ _ (by rw [if_pos c58] at ax; exact ax) (by rw [if_neg c71] at ay; exact ay) _ rfl
            | exact J _ _ (by rw [if_neg c58] at ax; exact ax) (by rw [if_pos c71] at ay; exact ay) _ rfl
            | exact J _ _ (by rw [if_neg c58] at ax; exact ax) (by rw [if_neg c71] at ay; exact ay) _ rfl
  refine SW.iconst (q := 1) (v := 1) dX8_isFar_0 (by decide) rfl ?_
  refine SW.istore_n (q := 2) (i := 2) dX8_isFar_1 rfl (by decide) rfl ?_
  refine SW.iconst (q := 3) (v := 0) dX8_isFar_2 (by decide) rfl ?_
  refine SW.istore_n (q := 4) (i := 3) dX8_isFar_3 rfl (by decide) rfl ?_
  exact loop L.length 0 (by omega) _ _
theorem C_X8_layTowns (hM : gr_M σ n) (hw5 : σ 59 5 = nI wn) (hw6 : wn ≤ 6) (hg2 : σ 60 2 = nI g) (hg : g ≤ 12) (hh : ∀ p, p < n * n → ∃ h : Nat, h ≤ 400 ∧ σ 64 p = nI h) :
    sw_Mv X 3 mX8_layTowns [.ref (sw_ad X 59)] σ (fun u => fr_ [59, 71] σ u ∧ fs_ [19] σ u ∧ u 59 19 = nI (tw_run n g (tw_worth n (σ 64) (σ 70) (σ 69)) wn []).length ∧ tw_row 71 (tw_run n g (tw_worth n (σ 64) (σ 70) (σ 69)) wn []) u) := by
  have n24 : n ≤ 24 := hM.2.1
  have h576 := gr_576 n24
  refine sw_ME.ofF (by decide +kernel) rfl (Nat.le_of_ble_eq_true rfl) rfl ?_
  generalize hWe : tw_worth n (σ 64) (σ 70) (σ 69) = W
  have hne8 : ∀ p, p < n * n → (W p = -6 ↔ ¬ σ 70 p = 8) := by
    intro p hp
    obtain ⟨h, h4, e⟩ := hh p hp
    rw [← hWe]
    exact tw_ne e h4
  have outer : ∀ (k : Nat) (A B C : Value) (τ : sw_Sg) (L : List Nat), fr_ [59, 71] σ τ → fs_ [19] σ τ → L.length + k = wn → τ 59 19 = nI L.length → tw_row 71 L τ → tw_ok n g W L → tw_run n g W k L = tw_run n g W wn [] →
      SW X 3 mX8_layTowns sw_E0 (sw_Rv (fun u => fr_ [59, 71] σ u ∧ fs_ [19] σ u ∧ u 59 19 = nI (tw_run n g W wn []).length ∧ tw_row 71 (tw_run n g W wn []) u)) 7 [.ref (sw_ad X 59), .int 1, A, B, C] [] τ := by
    intro k
    induction k with
    | zero =>
      intro A B C τ L hf hfs hlen hcnt hrow hok hrun
      simp only [tw_run] at hrun
      have e5 : τ 59 5 = nI wn := by rw [hfs 5 (by decide)]; exact hw5
      refine SW.aload_n (q := 8) (i := 0) dX8_layTowns_7 rfl rfl rfl ?_
      refine SW.getI (q := 11) (i := 59) fX8_134 rfl rfl dX8_layTowns_8 rfl ?_
      refine SW.aload_n (q := 12) (i := 0) dX8_layTowns_11 rfl rfl rfl ?_
      refine SW.getI (q := 15) (i := 59) fX8_137 rfl rfl dX8_layTowns_12 rfl ?_
      refine SW.icmp_ge (q := 18) (tgt := 137) dX8_layTowns_15 (by decide) rfl (fun _ => ?_) (fun c15 => absurd ((by rw [hcnt, e5]; exact nI_le (by omega) (by omega))) c15)
      refine SW.vretR rfl dX8_layTowns_137 ?_
      exact ⟨hf, hfs, by rw [← hrun]; exact hcnt, by rw [← hrun]; exact hrow⟩
    | succ k ih =>
      intro A B C τ L hf hfs hlen hcnt hrow hok hrun
      simp only [tw_run] at hrun
      have e5 : τ 59 5 = nI wn := by rw [hfs 5 (by decide)]; exact hw5
      have en : τ 59 1 = nI n := by rw [hfs 1 (by decide)]; exact hM.2.2
      have hM2 : gr_M τ n := ⟨hM.1, hM.2.1, en⟩
      have eg : τ 60 2 = nI g := by rw [hf 60 (by decide)]; exact hg2
      have eW : tw_worth n (τ 64) (τ 70) (τ 69) = W := by rw [hf 64 (by decide), hf 70 (by decide), hf 69 (by decide)]; exact hWe
      have hLq := fun t q hq => (hok.1 t q hq).1
      have inner : ∀ (k2 p : Nat), p + k2 = n * n → ∀ (C : Value), SW X 3 mX8_layTowns sw_E0 (sw_Rv (fun u => fr_ [59, 71] σ u ∧ fs_ [19] σ u ∧ u 59 19 = nI (tw_run n g W wn []).length ∧ tw_row 71 (tw_run n g W wn []) u)) 27 [.ref (sw_ad X 59), .int 1, .int (gr_v (tw_best W (fun p => decide (¬ W p = -6) && tw_far n g L p) p)), .int (nI p), C] [] τ := by
        intro k2
        induction k2 with
        | zero =>
          intro p hp C
          obtain rfl : p = n * n := by omega
          cases hb : tw_best W (fun p => decide (¬ W p = -6) && tw_far n g L p) (n * n) with
          | none =>
            have hb' : tw_next n g W L = none := hb
            rw [hb'] at hrun
            simp only at hrun
            refine SW.iload_n (q := 28) (i := 3) dX8_layTowns_27 rfl rfl rfl ?_
            refine SW.aload_n (q := 29) (i := 0) dX8_layTowns_28 rfl rfl rfl ?_
            refine SW.getI (q := 32) (i := 59) fX8_7 rfl rfl dX8_layTowns_29 rfl ?_
            refine SW.aload_n (q := 33) (i := 0) dX8_layTowns_32 rfl rfl rfl ?_
            refine SW.getI (q := 36) (i := 59) fX8_7 rfl rfl dX8_layTowns_33 rfl ?_
            refine SW.imul (q := 37) dX8_layTowns_36 rfl ?_
            refine SW.icmp_ge (q := 40) (tgt := 100) dX8_layTowns_37 (by decide) rfl (fun _ => ?_) (fun c37 => absurd ((by rw [en, pk_mul]; exact Int32.le_refl _)) c37)
            refine SW.iload_n (q := 101) (i := 2) dX8_layTowns_100 rfl rfl rfl ?_
            refine SW.if_lt (q := 104) (tgt := 108) dX8_layTowns_101 (by decide) rfl (fun _ => ?_) (fun c101 => absurd ((by decide)) c101)
            refine SW.iconst (q := 109) (v := 0) dX8_layTowns_108 (by decide) rfl ?_
            refine SW.istore_n (q := 110) (i := 1) dX8_layTowns_109 rfl (by decide) rfl ?_
            refine SW.iload_n (q := 111) (i := 1) dX8_layTowns_110 rfl rfl rfl ?_
            refine SW.if_eq (q := 114) (tgt := 134) dX8_layTowns_111 (by decide) rfl (fun _ => ?_) (fun c111 => absurd (rfl) c111)
            refine SW.goto (q := 7) dX8_layTowns_134 (by decide) ?_
            by_cases hz : L.length < wn
            · refine SW.aload_n (q := 8) (i := 0) dX8_layTowns_7 rfl rfl rfl ?_
              refine SW.getI (q := 11) (i := 59) fX8_134 rfl rfl dX8_layTowns_8 rfl ?_
              refine SW.aload_n (q := 12) (i := 0) dX8_layTowns_11 rfl rfl rfl ?_
              refine SW.getI (q := 15) (i := 59) fX8_137 rfl rfl dX8_layTowns_12 rfl ?_
              refine SW.icmp_ge (q := 18) (tgt := 137) dX8_layTowns_15 (by decide) rfl (fun c => absurd c (by rw [hcnt, e5]; exact nI_ge hz (by omega))) (fun _ => ?_)
              refine SW.iload_n (q := 19) (i := 1) dX8_layTowns_18 rfl rfl rfl ?_
              refine SW.if_eq (q := 22) (tgt := 137) dX8_layTowns_19 (by decide) rfl (fun _ => ?_) (fun c => absurd rfl c)
              exact SW.vretR rfl dX8_layTowns_137 ⟨hf, hfs, by rw [← hrun]; exact hcnt, by rw [← hrun]; exact hrow⟩
            · omega
          | some b =>
            have hb' : tw_next n g W L = some b := hb
            rw [hb'] at hrun
            simp only at hrun
            have bl := (tw_best_lt _ _ hb).1
            have bi : gr_v (some b) = nI b := rfl
            have okn : tw_ok n g W (L ++ [b]) := by
              have := tw_run_ok (n := n) (g := g) (W := W) 1 L hok
              simp only [tw_run, hb'] at this
              exact this
            refine SW.iload_n (q := 28) (i := 3) dX8_layTowns_27 rfl rfl rfl ?_
            refine SW.aload_n (q := 29) (i := 0) dX8_layTowns_28 rfl rfl rfl ?_
            refine SW.getI (q := 32) (i := 59) fX8_7 rfl rfl dX8_layTowns_29 rfl ?_
            refine SW.aload_n (q := 33) (i := 0) dX8_layTowns_32 rfl rfl rfl ?_
            refine SW.getI (q := 36) (i := 59) fX8_7 rfl rfl dX8_layTowns_33 rfl ?_
            refine SW.imul (q := 37) dX8_layTowns_36 rfl ?_
            refine SW.icmp_ge (q := 40) (tgt := 100) dX8_layTowns_37 (by decide) rfl (fun _ => ?_) (fun c37 => absurd ((by rw [en, pk_mul]; exact Int32.le_refl _)) c37)
            refine SW.iload_n (q := 101) (i := 2) dX8_layTowns_100 rfl rfl rfl ?_
            refine SW.if_lt (q := 104) (tgt := 108) dX8_layTowns_101 (by decide) rfl (fun c101 => absurd c101 ((by rw [bi]; exact nI_pos (by omega)))) (fun _ => ?_)
            refine SW.iconst (q := 105) (v := 1) dX8_layTowns_104 (by decide) rfl ?_
            refine SW.goto (q := 109) dX8_layTowns_105 (by decide) ?_
            refine SW.istore_n (q := 110) (i := 1) dX8_layTowns_109 rfl (by decide) rfl ?_
            refine SW.iload_n (q := 111) (i := 1) dX8_layTowns_110 rfl rfl rfl ?_
            refine SW.if_eq (q := 114) (tgt := 134) dX8_layTowns_111 (by decide) rfl (fun c111 => absurd c111 ((by decide))) (fun _ => ?_)
            refine SW.aload_n (q := 115) (i := 0) dX8_layTowns_114 rfl rfl rfl ?_
            refine SW.getR (q := 118) (i := 59) (j := 71) fX8_47 rfl rfl dX8_layTowns_115 rfl ?_
            refine SW.aload_n (q := 119) (i := 0) dX8_layTowns_118 rfl rfl rfl ?_
            refine SW.getI (q := 122) (i := 59) fX8_134 rfl rfl dX8_layTowns_119 rfl ?_
            refine SW.iload_n (q := 123) (i := 2) dX8_layTowns_122 rfl rfl rfl ?_
            refine SW.iastN (q := 124) (k := L.length) rfl (hcnt) (by omega) (by decide) dX8_layTowns_123 rfl ?_
            refine SW.aload_n (q := 125) (i := 0) dX8_layTowns_124 rfl rfl rfl ?_
            refine SW.dup (q := 126) dX8_layTowns_125 rfl rfl ?_
            refine SW.getI (q := 129) (i := 59) fX8_134 rfl rfl dX8_layTowns_126 rfl ?_
            refine SW.iconst (q := 130) (v := 1) dX8_layTowns_129 (by decide) rfl ?_
            refine SW.iadd (q := 131) dX8_layTowns_130 rfl ?_
            refine SW.putI (q := 134) (i := 59) pX8_134 rfl rfl dX8_layTowns_131 rfl ?_
            refine SW.goto (q := 7) dX8_layTowns_134 (by decide) ?_
            refine ih _ _ _ _ (L ++ [b]) (fr_up (fr_up hf (by decide)) (by decide)) (fs_ups (fs_up hfs (by decide)) (by decide)) (by rw [List.length_append, List.length_singleton]; omega) ?_ ?_ okn hrun
            · rw [sw_i1, sw_un (by decide), hcnt, nI_1, List.length_append]; rfl
            · exact (hrow.snoc).fr (l := [59]) (fr_up fr_rf (by decide)) (by decide)
        | succ k2 ih2 =>
          intro p hpk C
          have hp : p < n * n := by omega
          have e70 : τ 70 p = σ 70 p := by rw [hf 70 (by decide)]
          have keep : tw_best W (fun p => decide (¬ W p = -6) && tw_far n g L p) (p + 1) = tw_best W (fun p => decide (¬ W p = -6) && tw_far n g L p) p → ∀ v C, v = gr_v (tw_best W (fun p => decide (¬ W p = -6) && tw_far n g L p) p) → SW X 3 mX8_layTowns sw_E0 (sw_Rv (fun u => fr_ [59, 71] σ u ∧ fs_ [19] σ u ∧ u 59 19 = nI (tw_run n g W wn []).length ∧ tw_row 71 (tw_run n g W wn []) u)) 27 [.ref (sw_ad X 59), .int 1, .int v, .int (nI (p + 1)), C] [] τ := by
            rintro e v C rfl
            rw [← e]
            exact ih2 (p + 1) (by omega) C
          have take : tw_best W (fun p => decide (¬ W p = -6) && tw_far n g L p) (p + 1) = some p → ∀ C, SW X 3 mX8_layTowns sw_E0 (sw_Rv (fun u => fr_ [59, 71] σ u ∧ fs_ [19] σ u ∧ u 59 19 = nI (tw_run n g W wn []).length ∧ tw_row 71 (tw_run n g W wn []) u)) 27 [.ref (sw_ad X 59), .int 1, .int (nI p), .int (nI (p + 1)), C] [] τ := by
            intro e C
            have := ih2 (p + 1) (by omega) C
            rw [e] at this
            exact this
          have blt := tw_best_lt (W := W) (can := fun p => decide (¬ W p = -6) && tw_far n g L p) p
          cases hcan : (decide (¬ W p = -6) && tw_far n g L p) with
          | false =>
            have ek : tw_best W (fun p => decide (¬ W p = -6) && tw_far n g L p) (p + 1) = tw_best W (fun p => decide (¬ W p = -6) && tw_far n g L p) p := by
              simp only [tw_best, hcan]
              cases tw_best W (fun p => decide (¬ W p = -6) && tw_far n g L p) p <;> simp
            by_cases hw : W p = -6
            · refine SW.iload_n (q := 28) (i := 3) dX8_layTowns_27 rfl rfl rfl ?_
              refine SW.aload_n (q := 29) (i := 0) dX8_layTowns_28 rfl rfl rfl ?_
              refine SW.getI (q := 32) (i := 59) fX8_7 rfl rfl dX8_layTowns_29 rfl ?_
              refine SW.aload_n (q := 33) (i := 0) dX8_layTowns_32 rfl rfl rfl ?_
              refine SW.getI (q := 36) (i := 59) fX8_7 rfl rfl dX8_layTowns_33 rfl ?_
              refine SW.imul (q := 37) dX8_layTowns_36 rfl ?_
              refine SW.icmp_ge (q := 40) (tgt := 100) dX8_layTowns_37 (by decide) rfl (fun c37 => absurd c37 ((by rw [en, pk_mul]; exact nI_ge (by omega) (by omega)))) (fun _ => ?_)
              refine SW.aload_n (q := 41) (i := 0) dX8_layTowns_40 rfl rfl rfl ?_
              refine SW.getR (q := 44) (i := 59) (j := 70) fX8_44 rfl rfl dX8_layTowns_41 rfl ?_
              refine SW.iload_n (q := 45) (i := 3) dX8_layTowns_44 rfl rfl rfl ?_
              refine SW.ialdN (q := 46) (k := p) rfl (rfl) (by omega) (by decide) dX8_layTowns_45 rfl ?_
              refine SW.bipush (q := 48) (v := 8) dX8_layTowns_46 (by decide) rfl ?_
              refine SW.icmp_ne (q := 51) (tgt := 63) dX8_layTowns_48 (by decide) rfl (fun _ => ?_) (fun c48 => absurd c48 ((by rw [e70]; exact (hne8 p hp).mp hw)))
              refine SW.iconst (q := 64) (v := 0) dX8_layTowns_63 (by decide) rfl ?_
              refine SW.istore (q := 66) (i := 4) dX8_layTowns_64 (by decide) rfl ?_
              refine SW.iload (q := 68) (i := 4) dX8_layTowns_66 rfl rfl ?_
              refine SW.if_eq (q := 71) (tgt := 92) dX8_layTowns_68 (by decide) rfl (fun _ => ?_) (fun c68 => absurd (rfl) c68)
              refine SW.iload_n (q := 93) (i := 2) dX8_layTowns_92 rfl rfl rfl ?_
              refine SW.istore_n (q := 94) (i := 2) dX8_layTowns_93 rfl (by decide) rfl ?_
              refine SW.iinc (q := 97) (v := _ + 1) dX8_layTowns_94 rfl rfl (by decide) rfl ?_
              refine SW.goto (q := 27) dX8_layTowns_97 (by decide) ?_
              exact SW.eq (by rw [nI_1]; rfl) rfl rfl (keep ek _ _ rfl)
            · have hfar : tw_far n g L p = false := by simpa [hw] using hcan
              refine SW.iload_n (q := 28) (i := 3) dX8_layTowns_27 rfl rfl rfl ?_
              refine SW.aload_n (q := 29) (i := 0) dX8_layTowns_28 rfl rfl rfl ?_
              refine SW.getI (q := 32) (i := 59) fX8_7 rfl rfl dX8_layTowns_29 rfl ?_
              refine SW.aload_n (q := 33) (i := 0) dX8_layTowns_32 rfl rfl rfl ?_
              refine SW.getI (q := 36) (i := 59) fX8_7 rfl rfl dX8_layTowns_33 rfl ?_
              refine SW.imul (q := 37) dX8_layTowns_36 rfl ?_
              refine SW.icmp_ge (q := 40) (tgt := 100) dX8_layTowns_37 (by decide) rfl (fun c37 => absurd c37 ((by rw [en, pk_mul]; exact nI_ge (by omega) (by omega)))) (fun _ => ?_)
              refine SW.aload_n (q := 41) (i := 0) dX8_layTowns_40 rfl rfl rfl ?_
              refine SW.getR (q := 44) (i := 59) (j := 70) fX8_44 rfl rfl dX8_layTowns_41 rfl ?_
              refine SW.iload_n (q := 45) (i := 3) dX8_layTowns_44 rfl rfl rfl ?_
              refine SW.ialdN (q := 46) (k := p) rfl (rfl) (by omega) (by decide) dX8_layTowns_45 rfl ?_
              refine SW.bipush (q := 48) (v := 8) dX8_layTowns_46 (by decide) rfl ?_
              refine SW.icmp_ne (q := 51) (tgt := 63) dX8_layTowns_48 (by decide) rfl (fun c48 => absurd ((by rw [e70]; exact Classical.byContradiction fun z => hw ((hne8 p hp).mpr z))) c48) (fun _ => ?_)
              refine SW.aload_n (q := 52) (i := 0) dX8_layTowns_51 rfl rfl rfl ?_
              refine SW.iload_n (q := 53) (i := 3) dX8_layTowns_52 rfl rfl rfl ?_
              refine SW.cF (q := 56) (C_X8_isFar hM2 hcnt (by omega) hrow hLq rfl hp eg hg) vX8_140 (by decide) rfl rfl rfl rfl (Nat.le_of_ble_eq_true rfl) dX8_layTowns_53 rfl ?_
              rw [hfar]
              refine SW.if_eq (q := 59) (tgt := 63) dX8_layTowns_56 (by decide) rfl (fun _ => ?_) (fun c56 => absurd (rfl) c56)
              refine SW.iconst (q := 64) (v := 0) dX8_layTowns_63 (by decide) rfl ?_
              refine SW.istore (q := 66) (i := 4) dX8_layTowns_64 (by decide) rfl ?_
              refine SW.iload (q := 68) (i := 4) dX8_layTowns_66 rfl rfl ?_
              refine SW.if_eq (q := 71) (tgt := 92) dX8_layTowns_68 (by decide) rfl (fun _ => ?_) (fun c68 => absurd (rfl) c68)
              refine SW.iload_n (q := 93) (i := 2) dX8_layTowns_92 rfl rfl rfl ?_
              refine SW.istore_n (q := 94) (i := 2) dX8_layTowns_93 rfl (by decide) rfl ?_
              refine SW.iinc (q := 97) (v := _ + 1) dX8_layTowns_94 rfl rfl (by decide) rfl ?_
              refine SW.goto (q := 27) dX8_layTowns_97 (by decide) ?_
              exact SW.eq (by rw [nI_1]; rfl) rfl rfl (keep ek _ _ rfl)
          | true =>
            simp only [Bool.and_eq_true] at hcan
            have hw : ¬ W p = -6 := of_decide_eq_true hcan.1
            have hfar := hcan.2
            have hk8 : τ 70 p = 8 := by rw [e70]; exact Classical.byContradiction fun z => hw ((hne8 p hp).mpr z)
            cases hb : tw_best W (fun p => decide (¬ W p = -6) && tw_far n g L p) p with
            | none =>
              have ek : tw_best W (fun p => decide (¬ W p = -6) && tw_far n g L p) (p + 1) = some p := by
                simp only [tw_best, hb]; simp [hw, hfar]
              refine SW.iload_n (q := 28) (i := 3) dX8_layTowns_27 rfl rfl rfl ?_
              refine SW.aload_n (q := 29) (i := 0) dX8_layTowns_28 rfl rfl rfl ?_
              refine SW.getI (q := 32) (i := 59) fX8_7 rfl rfl dX8_layTowns_29 rfl ?_
              refine SW.aload_n (q := 33) (i := 0) dX8_layTowns_32 rfl rfl rfl ?_
              refine SW.getI (q := 36) (i := 59) fX8_7 rfl rfl dX8_layTowns_33 rfl ?_
              refine SW.imul (q := 37) dX8_layTowns_36 rfl ?_
              refine SW.icmp_ge (q := 40) (tgt := 100) dX8_layTowns_37 (by decide) rfl (fun c37 => absurd c37 ((by rw [en, pk_mul]; exact nI_ge (by omega) (by omega)))) (fun _ => ?_)
              refine SW.aload_n (q := 41) (i := 0) dX8_layTowns_40 rfl rfl rfl ?_
              refine SW.getR (q := 44) (i := 59) (j := 70) fX8_44 rfl rfl dX8_layTowns_41 rfl ?_
              refine SW.iload_n (q := 45) (i := 3) dX8_layTowns_44 rfl rfl rfl ?_
              refine SW.ialdN (q := 46) (k := p) rfl (rfl) (by omega) (by decide) dX8_layTowns_45 rfl ?_
              refine SW.bipush (q := 48) (v := 8) dX8_layTowns_46 (by decide) rfl ?_
              refine SW.icmp_ne (q := 51) (tgt := 63) dX8_layTowns_48 (by decide) rfl (fun c48 => absurd (hk8) c48) (fun _ => ?_)
              refine SW.aload_n (q := 52) (i := 0) dX8_layTowns_51 rfl rfl rfl ?_
              refine SW.iload_n (q := 53) (i := 3) dX8_layTowns_52 rfl rfl rfl ?_
              refine SW.cF (q := 56) (C_X8_isFar hM2 hcnt (by omega) hrow hLq rfl hp eg hg) vX8_140 (by decide) rfl rfl rfl rfl (Nat.le_of_ble_eq_true rfl) dX8_layTowns_53 rfl ?_
              rw [hfar]
              refine SW.if_eq (q := 59) (tgt := 63) dX8_layTowns_56 (by decide) rfl (fun c56 => absurd c56 ((by decide))) (fun _ => ?_)
              refine SW.iconst (q := 60) (v := 1) dX8_layTowns_59 (by decide) rfl ?_
              refine SW.goto (q := 64) dX8_layTowns_60 (by decide) ?_
              refine SW.istore (q := 66) (i := 4) dX8_layTowns_64 (by decide) rfl ?_
              refine SW.iload (q := 68) (i := 4) dX8_layTowns_66 rfl rfl ?_
              refine SW.if_eq (q := 71) (tgt := 92) dX8_layTowns_68 (by decide) rfl (fun c68 => absurd c68 ((by decide))) (fun _ => ?_)
              refine SW.iload_n (q := 72) (i := 2) dX8_layTowns_71 rfl rfl rfl ?_
              refine SW.if_lt (q := 75) (tgt := 88) dX8_layTowns_72 (by decide) rfl (fun _ => ?_) (fun c72 => absurd ((by decide)) c72)
              refine SW.iload_n (q := 89) (i := 3) dX8_layTowns_88 rfl rfl rfl ?_
              refine SW.goto (q := 93) dX8_layTowns_89 (by decide) ?_
              refine SW.istore_n (q := 94) (i := 2) dX8_layTowns_93 rfl (by decide) rfl ?_
              refine SW.iinc (q := 97) (v := _ + 1) dX8_layTowns_94 rfl rfl (by decide) rfl ?_
              refine SW.goto (q := 27) dX8_layTowns_97 (by decide) ?_
              exact SW.eq (by rw [nI_1]; rfl) rfl rfl (take ek _)
            | some b =>
              have b1 := (blt b hb).1
              have bi : gr_v (some b) = nI b := rfl
              by_cases hlt : W b < W p
              · have ek : tw_best W (fun p => decide (¬ W p = -6) && tw_far n g L p) (p + 1) = some p := by
                  simp only [tw_best, hb]; simp [hw, hfar, hlt]
                refine SW.iload_n (q := 28) (i := 3) dX8_layTowns_27 rfl rfl rfl ?_
                refine SW.aload_n (q := 29) (i := 0) dX8_layTowns_28 rfl rfl rfl ?_
                refine SW.getI (q := 32) (i := 59) fX8_7 rfl rfl dX8_layTowns_29 rfl ?_
                refine SW.aload_n (q := 33) (i := 0) dX8_layTowns_32 rfl rfl rfl ?_
                refine SW.getI (q := 36) (i := 59) fX8_7 rfl rfl dX8_layTowns_33 rfl ?_
                refine SW.imul (q := 37) dX8_layTowns_36 rfl ?_
                refine SW.icmp_ge (q := 40) (tgt := 100) dX8_layTowns_37 (by decide) rfl (fun c37 => absurd c37 ((by rw [en, pk_mul]; exact nI_ge (by omega) (by omega)))) (fun _ => ?_)
                refine SW.aload_n (q := 41) (i := 0) dX8_layTowns_40 rfl rfl rfl ?_
                refine SW.getR (q := 44) (i := 59) (j := 70) fX8_44 rfl rfl dX8_layTowns_41 rfl ?_
                refine SW.iload_n (q := 45) (i := 3) dX8_layTowns_44 rfl rfl rfl ?_
                refine SW.ialdN (q := 46) (k := p) rfl (rfl) (by omega) (by decide) dX8_layTowns_45 rfl ?_
                refine SW.bipush (q := 48) (v := 8) dX8_layTowns_46 (by decide) rfl ?_
                refine SW.icmp_ne (q := 51) (tgt := 63) dX8_layTowns_48 (by decide) rfl (fun c48 => absurd (hk8) c48) (fun _ => ?_)
                refine SW.aload_n (q := 52) (i := 0) dX8_layTowns_51 rfl rfl rfl ?_
                refine SW.iload_n (q := 53) (i := 3) dX8_layTowns_52 rfl rfl rfl ?_
                refine SW.cF (q := 56) (C_X8_isFar hM2 hcnt (by omega) hrow hLq rfl hp eg hg) vX8_140 (by decide) rfl rfl rfl rfl (Nat.le_of_ble_eq_true rfl) dX8_layTowns_53 rfl ?_
                rw [hfar]
                refine SW.if_eq (q := 59) (tgt := 63) dX8_layTowns_56 (by decide) rfl (fun c56 => absurd c56 ((by decide))) (fun _ => ?_)
                refine SW.iconst (q := 60) (v := 1) dX8_layTowns_59 (by decide) rfl ?_
                refine SW.goto (q := 64) dX8_layTowns_60 (by decide) ?_
                refine SW.istore (q := 66) (i := 4) dX8_layTowns_64 (by decide) rfl ?_
                refine SW.iload (q := 68) (i := 4) dX8_layTowns_66 rfl rfl ?_
                refine SW.if_eq (q := 71) (tgt := 92) dX8_layTowns_68 (by decide) rfl (fun c68 => absurd c68 ((by decide))) (fun _ => ?_)
                refine SW.iload_n (q := 72) (i := 2) dX8_layTowns_71 rfl rfl rfl ?_
                refine SW.if_lt (q := 75) (tgt := 88) dX8_layTowns_72 (by decide) rfl (fun c72 => absurd c72 ((by rw [bi]; exact nI_pos (by omega)))) (fun _ => ?_)
                refine SW.aload_n (q := 76) (i := 0) dX8_layTowns_75 rfl rfl rfl ?_
                refine SW.iload_n (q := 77) (i := 3) dX8_layTowns_76 rfl rfl rfl ?_
                refine SW.cF (q := 80) (C_X8_worth hM2 rfl hp) vX8_143 (by decide) rfl rfl rfl rfl (Nat.le_of_ble_eq_true rfl) dX8_layTowns_77 rfl ?_
                refine SW.aload_n (q := 81) (i := 0) dX8_layTowns_80 rfl rfl rfl ?_
                refine SW.iload_n (q := 82) (i := 2) dX8_layTowns_81 rfl rfl rfl ?_
                refine SW.cF (q := 85) (C_X8_worth (p := b) hM2 bi (by omega)) vX8_143 (by decide) rfl rfl rfl rfl (Nat.le_of_ble_eq_true rfl) dX8_layTowns_82 rfl ?_
                rw [eW]
                refine SW.icmp_le (q := 88) (tgt := 92) dX8_layTowns_85 (by decide) rfl (fun c85 => absurd c85 ((Int32.not_le.mpr hlt))) (fun _ => ?_)
                refine SW.iload_n (q := 89) (i := 3) dX8_layTowns_88 rfl rfl rfl ?_
                refine SW.goto (q := 93) dX8_layTowns_89 (by decide) ?_
                refine SW.istore_n (q := 94) (i := 2) dX8_layTowns_93 rfl (by decide) rfl ?_
                refine SW.iinc (q := 97) (v := _ + 1) dX8_layTowns_94 rfl rfl (by decide) rfl ?_
                refine SW.goto (q := 27) dX8_layTowns_97 (by decide) ?_
                exact SW.eq (by rw [nI_1]; rfl) rfl rfl (take ek _)
              · have ek : tw_best W (fun p => decide (¬ W p = -6) && tw_far n g L p) (p + 1) = tw_best W (fun p => decide (¬ W p = -6) && tw_far n g L p) p := by
                  rw [hb]; simp only [tw_best, hb]; simp [hlt]
                refine SW.iload_n (q := 28) (i := 3) dX8_layTowns_27 rfl rfl rfl ?_
                refine SW.aload_n (q := 29) (i := 0) dX8_layTowns_28 rfl rfl rfl ?_
                refine SW.getI (q := 32) (i := 59) fX8_7 rfl rfl dX8_layTowns_29 rfl ?_
                refine SW.aload_n (q := 33) (i := 0) dX8_layTowns_32 rfl rfl rfl ?_
                refine SW.getI (q := 36) (i := 59) fX8_7 rfl rfl dX8_layTowns_33 rfl ?_
                refine SW.imul (q := 37) dX8_layTowns_36 rfl ?_
                refine SW.icmp_ge (q := 40) (tgt := 100) dX8_layTowns_37 (by decide) rfl (fun c37 => absurd c37 ((by rw [en, pk_mul]; exact nI_ge (by omega) (by omega)))) (fun _ => ?_)
                refine SW.aload_n (q := 41) (i := 0) dX8_layTowns_40 rfl rfl rfl ?_
                refine SW.getR (q := 44) (i := 59) (j := 70) fX8_44 rfl rfl dX8_layTowns_41 rfl ?_
                refine SW.iload_n (q := 45) (i := 3) dX8_layTowns_44 rfl rfl rfl ?_
                refine SW.ialdN (q := 46) (k := p) rfl (rfl) (by omega) (by decide) dX8_layTowns_45 rfl ?_
                refine SW.bipush (q := 48) (v := 8) dX8_layTowns_46 (by decide) rfl ?_
                refine SW.icmp_ne (q := 51) (tgt := 63) dX8_layTowns_48 (by decide) rfl (fun c48 => absurd (hk8) c48) (fun _ => ?_)
                refine SW.aload_n (q := 52) (i := 0) dX8_layTowns_51 rfl rfl rfl ?_
                refine SW.iload_n (q := 53) (i := 3) dX8_layTowns_52 rfl rfl rfl ?_
                refine SW.cF (q := 56) (C_X8_isFar hM2 hcnt (by omega) hrow hLq rfl hp eg hg) vX8_140 (by decide) rfl rfl rfl rfl (Nat.le_of_ble_eq_true rfl) dX8_layTowns_53 rfl ?_
                rw [hfar]
                refine SW.if_eq (q := 59) (tgt := 63) dX8_layTowns_56 (by decide) rfl (fun c56 => absurd c56 ((by decide))) (fun _ => ?_)
                refine SW.iconst (q := 60) (v := 1) dX8_layTowns_59 (by decide) rfl ?_
                refine SW.goto (q := 64) dX8_layTowns_60 (by decide) ?_
                refine SW.istore (q := 66) (i := 4) dX8_layTowns_64 (by decide) rfl ?_
                refine SW.iload (q := 68) (i := 4) dX8_layTowns_66 rfl rfl ?_
                refine SW.if_eq (q := 71) (tgt := 92) dX8_layTowns_68 (by decide) rfl (fun c68 => absurd c68 ((by decide))) (fun _ => ?_)
                refine SW.iload_n (q := 72) (i := 2) dX8_layTowns_71 rfl rfl rfl ?_
                refine SW.if_lt (q := 75) (tgt := 88) dX8_layTowns_72 (by decide) rfl (fun c72 => absurd c72 ((by rw [bi]; exact nI_pos (by omega)))) (fun _ => ?_)
                refine SW.aload_n (q := 76) (i := 0) dX8_layTowns_75 rfl rfl rfl ?_
                refine SW.iload_n (q := 77) (i := 3) dX8_layTowns_76 rfl rfl rfl ?_
                refine SW.cF (q := 80) (C_X8_worth hM2 rfl hp) vX8_143 (by decide) rfl rfl rfl rfl (Nat.le_of_ble_eq_true rfl) dX8_layTowns_77 rfl ?_
                refine SW.aload_n (q := 81) (i := 0) dX8_layTowns_80 rfl rfl rfl ?_
                refine SW.iload_n (q := 82) (i := 2) dX8_layTowns_81 rfl rfl rfl ?_
                refine SW.cF (q := 85) (C_X8_worth (p := b) hM2 bi (by omega)) vX8_143 (by decide) rfl rfl rfl rfl (Nat.le_of_ble_eq_true rfl) dX8_layTowns_82 rfl ?_
                rw [eW]
                refine SW.icmp_le (q := 88) (tgt := 92) dX8_layTowns_85 (by decide) rfl (fun _ => ?_) (fun c85 => absurd ((Int32.not_lt.mp hlt)) c85)
                refine SW.iload_n (q := 93) (i := 2) dX8_layTowns_92 rfl rfl rfl ?_
                refine SW.istore_n (q := 94) (i := 2) dX8_layTowns_93 rfl (by decide) rfl ?_
                refine SW.iinc (q := 97) (v := _ + 1) dX8_layTowns_94 rfl rfl (by decide) rfl ?_
                refine SW.goto (q := 27) dX8_layTowns_97 (by decide) ?_
                exact SW.eq (by rw [nI_1]; rfl) rfl rfl (keep ek _ _ (by rw [hb]))
      refine SW.aload_n (q := 8) (i := 0) dX8_layTowns_7 rfl rfl rfl ?_
      refine SW.getI (q := 11) (i := 59) fX8_134 rfl rfl dX8_layTowns_8 rfl ?_
      refine SW.aload_n (q := 12) (i := 0) dX8_layTowns_11 rfl rfl rfl ?_
      refine SW.getI (q := 15) (i := 59) fX8_137 rfl rfl dX8_layTowns_12 rfl ?_
      refine SW.icmp_ge (q := 18) (tgt := 137) dX8_layTowns_15 (by decide) rfl (fun c15 => absurd c15 ((by rw [hcnt, e5]; exact nI_ge (by omega) (by omega)))) (fun _ => ?_)
      refine SW.iload_n (q := 19) (i := 1) dX8_layTowns_18 rfl rfl rfl ?_
      refine SW.if_eq (q := 22) (tgt := 137) dX8_layTowns_19 (by decide) rfl (fun c19 => absurd c19 ((by decide))) (fun _ => ?_)
      refine SW.bipush (q := 24) (v := (-6)) dX8_layTowns_22 (by decide) rfl ?_
      refine SW.istore_n (q := 25) (i := 2) dX8_layTowns_24 rfl (by decide) rfl ?_
      refine SW.iconst (q := 26) (v := 0) dX8_layTowns_25 (by decide) rfl ?_
      refine SW.istore_n (q := 27) (i := 3) dX8_layTowns_26 rfl (by decide) rfl ?_
      exact inner (n * n) 0 (by omega) _
  refine SW.aload_n (q := 1) (i := 0) dX8_layTowns_0 rfl rfl rfl ?_
  refine SW.iconst (q := 2) (v := 0) dX8_layTowns_1 (by decide) rfl ?_
  refine SW.putI (q := 5) (i := 59) pX8_134 rfl rfl dX8_layTowns_2 rfl ?_
  refine SW.iconst (q := 6) (v := 1) dX8_layTowns_5 (by decide) rfl ?_
  refine SW.istore_n (q := 7) (i := 1) dX8_layTowns_6 rfl (by decide) rfl ?_
  exact outer wn _ _ _ _ [] (fr_up fr_rf (by decide)) (fs_ups fs_rf (by decide)) (by simp) (by rw [sw_i1]; rfl) (fun t q hq => (by cases hq)) ⟨fun i q hq => (by cases hq), fun i j p q _ hq => (by cases hq)⟩ rfl
end MTOWNS
