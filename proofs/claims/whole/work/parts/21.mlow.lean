/-! WATER in the reference: the lowest taken place beside one -/
def mm_R (n K : Nat) (T lv od : Nat → Nat) (D : Nat → Option Nat) (τ : sw_Sg) : Prop :=
  τ 59 18 = nI K ∧ (∀ j, j < K → τ 68 j = nI (T j)) ∧ (∀ q, q < n * n → wt_tk T K q → τ 67 q = nI (od q) ∧ od q < 576 ∧ τ 65 q = nI (lv q) ∧ lv q ≤ 400 ∧ τ 66 q = gr_v (D q)) ∧ (∀ q, q < n * n → ¬ wt_tk T K q → τ 67 q = -6)
section MLOW
variable {X : sw_X} {σ : sw_Sg} {x y v w st : Int32} {n p q K c l o m sea : Nat} {h T lv od O : Nat → Nat} {D : Nat → Option Nat} {r : Option Nat}
theorem C_X8_lowest (hM : gr_M σ n) (hR : mm_R n K T lv od D σ) (hx : x = nI p) (hp : p < n * n) :
    sw_Mi X 2 mX8_lowest [.ref (sw_ad X 59), .int x] σ (fun v u => u = σ ∧ ∃ o : Option Nat, v = gr_v o ∧ (o = none → ∀ e q, e < 4 → gr_nb n p e = some q → ¬ wt_tk T K q) ∧ ∀ r, o = some r → r < n * n ∧ wt_low n T lv od K p r) := by
  subst hx
  have n24 : n ≤ 24 := hM.2.1
  have h576 := gr_576 n24
  obtain ⟨r1, r2, r3, r4⟩ := hR
  refine sw_ME.ofF (by decide +kernel) rfl (Nat.le_of_ble_eq_true rfl) rfl ?_
  have loop : ∀ (k e : Nat), e + k = 4 → ∀ (B C : Value) (bo : Option Nat), (bo = none → ∀ e' q, e' < e → gr_nb n p e' = some q → ¬ wt_tk T K q) → (∀ b, bo = some b → b < n * n ∧ wl_adj n p b ∧ wt_tk T K b ∧ ∀ e' q, e' < e → gr_nb n p e' = some q → wt_tk T K q → lv b < lv q ∨ lv b = lv q ∧ od b ≤ od q) →
      SW X 2 mX8_lowest sw_E0 (sw_Ri (fun v u => u = σ ∧ ∃ o : Option Nat, v = gr_v o ∧ (o = none → ∀ e q, e < 4 → gr_nb n p e = some q → ¬ wt_tk T K q) ∧ ∀ r, o = some r → r < n * n ∧ wt_low n T lv od K p r)) 5 [.ref (sw_ad X 59), .int (nI p), .int (gr_v bo), .int (nI e), B, C] [] σ := by
    intro k
    induction k with
    | zero =>
      intro e he B C bo h0 h1
      obtain rfl : e = 4 := by omega
      refine SW.iload_n (q := 6) (i := 3) dX8_lowest_5 rfl rfl rfl ?_
      refine SW.iconst (q := 7) (v := 4) dX8_lowest_6 (by decide) rfl ?_
      refine SW.icmp_ge (q := 10) (tgt := 110) dX8_lowest_7 (by decide) rfl (fun _ => ?_) (fun c7 => absurd ((by decide)) c7)
      refine SW.iload_n (q := 111) (i := 2) dX8_lowest_110 rfl rfl rfl ?_
      refine SW.iretR rfl rfl dX8_lowest_111 ?_
      refine ⟨rfl, bo, rfl, fun z e q => h0 z e q, fun b hb => ?_⟩
      obtain ⟨b1, b2, b3, b4⟩ := h1 b hb
      exact ⟨b1, b2, b3, fun e r' => b4 e r'⟩
    | succ k ih =>
      intro e he B C bo h0 h1
      have keep : (∀ q, gr_nb n p e = some q → wt_tk T K q → ∃ b, bo = some b ∧ (lv b < lv q ∨ lv b = lv q ∧ od b ≤ od q)) → ∀ B' C', SW X 2 mX8_lowest sw_E0 (sw_Ri (fun v u => u = σ ∧ ∃ o : Option Nat, v = gr_v o ∧ (o = none → ∀ e q, e < 4 → gr_nb n p e = some q → ¬ wt_tk T K q) ∧ ∀ r, o = some r → r < n * n ∧ wt_low n T lv od K p r)) 5 [.ref (sw_ad X 59), .int (nI p), .int (gr_v bo), .int (nI (e + 1)), B', C'] [] σ := by
        intro hk B' C'
        refine ih (e + 1) (by omega) B' C' bo (fun hn e' q he' hq ht => ?_) (fun b hb => ?_)
        · by_cases z : e' = e
          · subst z
            obtain ⟨b, a, -⟩ := hk q hq ht
            rw [hn] at a; cases a
          · exact h0 hn e' q (by omega) hq ht
        · obtain ⟨b1, b2, b3, b4⟩ := h1 b hb
          refine ⟨b1, b2, b3, fun e' q he' hq ht => ?_⟩
          by_cases z : e' = e
          · subst z
            obtain ⟨b', a, c⟩ := hk q hq ht
            rw [hb] at a; cases a; exact c
          · exact b4 e' q (by omega) hq ht
      cases hq : gr_nb n p e with
      | none =>
        refine SW.iload_n (q := 6) (i := 3) dX8_lowest_5 rfl rfl rfl ?_
        refine SW.iconst (q := 7) (v := 4) dX8_lowest_6 (by decide) rfl ?_
        refine SW.icmp_ge (q := 10) (tgt := 110) dX8_lowest_7 (by decide) rfl (fun c7 => absurd c7 ((nI_ge (a := e) (b := 4) (by omega) (by omega)))) (fun _ => ?_)
        refine SW.aload_n (q := 11) (i := 0) dX8_lowest_10 rfl rfl rfl ?_
        refine SW.iload_n (q := 12) (i := 1) dX8_lowest_11 rfl rfl rfl ?_
        refine SW.iload_n (q := 13) (i := 3) dX8_lowest_12 rfl rfl rfl ?_
        refine SW.cF (q := 16) (C_X8_beside hM rfl rfl hp (by omega)) vX8_114 (by decide) rfl rfl rfl rfl (Nat.le_of_ble_eq_true rfl) dX8_lowest_13 rfl ?_
        rw [hq]
        refine SW.istore (q := 18) (i := 4) dX8_lowest_16 (by decide) rfl ?_
        refine SW.iload (q := 20) (i := 4) dX8_lowest_18 rfl rfl ?_
        refine SW.if_lt (q := 23) (tgt := 104) dX8_lowest_20 (by decide) rfl (fun _ => ?_) (fun c20 => absurd ((by decide)) c20)
        refine SW.iinc (q := 107) (v := _ + 1) dX8_lowest_104 rfl rfl (by decide) rfl ?_
        refine SW.goto (q := 5) dX8_lowest_107 (by decide) ?_
        exact SW.eq (by rw [nI_1]; rfl) rfl rfl (keep (fun q z => by rw [hq] at z; cases z) _ _)
      | some q0 =>
        obtain ⟨q0l, q0n, -⟩ := gr_nb_lt hp hq
        have q0i : gr_v (some q0) = nI q0 := rfl
        by_cases ht : wt_tk T K q0
        · obtain ⟨t1, t2, t3, t4, -⟩ := r3 q0 q0l ht
          have take : (∀ b, bo = some b → lv q0 < lv b ∨ lv q0 = lv b ∧ od q0 ≤ od b) → ∀ B' C', SW X 2 mX8_lowest sw_E0 (sw_Ri (fun v u => u = σ ∧ ∃ o : Option Nat, v = gr_v o ∧ (o = none → ∀ e q, e < 4 → gr_nb n p e = some q → ¬ wt_tk T K q) ∧ ∀ r, o = some r → r < n * n ∧ wt_low n T lv od K p r)) 5 [.ref (sw_ad X 59), .int (nI p), .int (nI q0), .int (nI (e + 1)), B', C'] [] σ := by
            intro hk B' C'
            refine ih (e + 1) (by omega) B' C' (some q0) (fun z => by cases z) (fun b hb => ?_)
            cases hb
            refine ⟨q0l, ⟨e, by omega, hq⟩, ht, fun e' q he' hq' ht' => ?_⟩
            by_cases z : e' = e
            · subst z; rw [hq] at hq'; cases hq'; omega
            · cases hbo : bo with
              | none => exact absurd ht' (h0 hbo e' q (by omega) hq')
              | some b =>
                have c1 := hk b hbo
                have c2 := (h1 b hbo).2.2.2 e' q (by omega) hq' ht'
                omega
          cases bo with
          | none =>
            refine SW.iload_n (q := 6) (i := 3) dX8_lowest_5 rfl rfl rfl ?_
            refine SW.iconst (q := 7) (v := 4) dX8_lowest_6 (by decide) rfl ?_
            refine SW.icmp_ge (q := 10) (tgt := 110) dX8_lowest_7 (by decide) rfl (fun c7 => absurd c7 ((nI_ge (a := e) (b := 4) (by omega) (by omega)))) (fun _ => ?_)
            refine SW.aload_n (q := 11) (i := 0) dX8_lowest_10 rfl rfl rfl ?_
            refine SW.iload_n (q := 12) (i := 1) dX8_lowest_11 rfl rfl rfl ?_
            refine SW.iload_n (q := 13) (i := 3) dX8_lowest_12 rfl rfl rfl ?_
            refine SW.cF (q := 16) (C_X8_beside hM rfl rfl hp (by omega)) vX8_114 (by decide) rfl rfl rfl rfl (Nat.le_of_ble_eq_true rfl) dX8_lowest_13 rfl ?_
            rw [hq, q0i]
            refine SW.istore (q := 18) (i := 4) dX8_lowest_16 (by decide) rfl ?_
            refine SW.iload (q := 20) (i := 4) dX8_lowest_18 rfl rfl ?_
            refine SW.if_lt (q := 23) (tgt := 104) dX8_lowest_20 (by decide) rfl (fun c20 => absurd c20 ((nI_pos (by omega)))) (fun _ => ?_)
            refine SW.aload_n (q := 24) (i := 0) dX8_lowest_23 rfl rfl rfl ?_
            refine SW.getR (q := 27) (i := 59) (j := 67) fX8_35 rfl rfl dX8_lowest_24 rfl ?_
            refine SW.iload (q := 29) (i := 4) dX8_lowest_27 rfl rfl ?_
            refine SW.ialdN (q := 30) (k := q0) rfl (rfl) (by omega) (by decide) dX8_lowest_29 rfl ?_
            refine SW.if_lt (q := 33) (tgt := 104) dX8_lowest_30 (by decide) rfl (fun c30 => absurd c30 ((by rw [t1]; exact nI_pos (by omega)))) (fun _ => ?_)
            refine SW.iload_n (q := 34) (i := 2) dX8_lowest_33 rfl rfl rfl ?_
            refine SW.if_lt (q := 37) (tgt := 85) dX8_lowest_34 (by decide) rfl (fun _ => ?_) (fun c34 => absurd ((by decide)) c34)
            refine SW.iconst (q := 86) (v := 1) dX8_lowest_85 (by decide) rfl ?_
            refine SW.goto (q := 90) dX8_lowest_86 (by decide) ?_
            refine SW.istore (q := 92) (i := 5) dX8_lowest_90 (by decide) rfl ?_
            refine SW.iload (q := 94) (i := 5) dX8_lowest_92 rfl rfl ?_
            refine SW.if_eq (q := 97) (tgt := 102) dX8_lowest_94 (by decide) rfl (fun c94 => absurd c94 ((by decide))) (fun _ => ?_)
            refine SW.iload (q := 99) (i := 4) dX8_lowest_97 rfl rfl ?_
            refine SW.goto (q := 103) dX8_lowest_99 (by decide) ?_
            refine SW.istore_n (q := 104) (i := 2) dX8_lowest_103 rfl (by decide) rfl ?_
            refine SW.iinc (q := 107) (v := _ + 1) dX8_lowest_104 rfl rfl (by decide) rfl ?_
            refine SW.goto (q := 5) dX8_lowest_107 (by decide) ?_
            exact SW.eq (by rw [nI_1]; rfl) rfl rfl (take (fun b z => by cases z) _ _)
          | some b =>
            obtain ⟨b1, b2, b3, b4⟩ := h1 b rfl
            have bi : gr_v (some b) = nI b := rfl
            obtain ⟨s1, s2, s3, s4, -⟩ := r3 b b1 b3
            by_cases hlt : lv q0 < lv b
            · refine SW.iload_n (q := 6) (i := 3) dX8_lowest_5 rfl rfl rfl ?_
              refine SW.iconst (q := 7) (v := 4) dX8_lowest_6 (by decide) rfl ?_
              refine SW.icmp_ge (q := 10) (tgt := 110) dX8_lowest_7 (by decide) rfl (fun c7 => absurd c7 ((nI_ge (a := e) (b := 4) (by omega) (by omega)))) (fun _ => ?_)
              refine SW.aload_n (q := 11) (i := 0) dX8_lowest_10 rfl rfl rfl ?_
              refine SW.iload_n (q := 12) (i := 1) dX8_lowest_11 rfl rfl rfl ?_
              refine SW.iload_n (q := 13) (i := 3) dX8_lowest_12 rfl rfl rfl ?_
              refine SW.cF (q := 16) (C_X8_beside hM rfl rfl hp (by omega)) vX8_114 (by decide) rfl rfl rfl rfl (Nat.le_of_ble_eq_true rfl) dX8_lowest_13 rfl ?_
              rw [hq, q0i]
              refine SW.istore (q := 18) (i := 4) dX8_lowest_16 (by decide) rfl ?_
              refine SW.iload (q := 20) (i := 4) dX8_lowest_18 rfl rfl ?_
              refine SW.if_lt (q := 23) (tgt := 104) dX8_lowest_20 (by decide) rfl (fun c20 => absurd c20 ((nI_pos (by omega)))) (fun _ => ?_)
              refine SW.aload_n (q := 24) (i := 0) dX8_lowest_23 rfl rfl rfl ?_
              refine SW.getR (q := 27) (i := 59) (j := 67) fX8_35 rfl rfl dX8_lowest_24 rfl ?_
              refine SW.iload (q := 29) (i := 4) dX8_lowest_27 rfl rfl ?_
              refine SW.ialdN (q := 30) (k := q0) rfl (rfl) (by omega) (by decide) dX8_lowest_29 rfl ?_
              refine SW.if_lt (q := 33) (tgt := 104) dX8_lowest_30 (by decide) rfl (fun c30 => absurd c30 ((by rw [t1]; exact nI_pos (by omega)))) (fun _ => ?_)
              refine SW.iload_n (q := 34) (i := 2) dX8_lowest_33 rfl rfl rfl ?_
              refine SW.if_lt (q := 37) (tgt := 85) dX8_lowest_34 (by decide) rfl (fun c34 => absurd c34 ((nI_pos (by omega)))) (fun _ => ?_)
              refine SW.aload_n (q := 38) (i := 0) dX8_lowest_37 rfl rfl rfl ?_
              refine SW.getR (q := 41) (i := 59) (j := 65) fX8_29 rfl rfl dX8_lowest_38 rfl ?_
              refine SW.iload (q := 43) (i := 4) dX8_lowest_41 rfl rfl ?_
              refine SW.ialdN (q := 44) (k := q0) rfl (rfl) (by omega) (by decide) dX8_lowest_43 rfl ?_
              refine SW.aload_n (q := 45) (i := 0) dX8_lowest_44 rfl rfl rfl ?_
              refine SW.getR (q := 48) (i := 59) (j := 65) fX8_29 rfl rfl dX8_lowest_45 rfl ?_
              refine SW.iload_n (q := 49) (i := 2) dX8_lowest_48 rfl rfl rfl ?_
              refine SW.ialdN (q := 50) (k := b) rfl (rfl) (by omega) (by decide) dX8_lowest_49 rfl ?_
              refine SW.icmp_lt (q := 53) (tgt := 85) dX8_lowest_50 (by decide) rfl (fun _ => ?_) (fun c50 => absurd ((by rw [t3, s3]; exact nI_lt hlt (by omega))) c50)
              refine SW.iconst (q := 86) (v := 1) dX8_lowest_85 (by decide) rfl ?_
              refine SW.goto (q := 90) dX8_lowest_86 (by decide) ?_
              refine SW.istore (q := 92) (i := 5) dX8_lowest_90 (by decide) rfl ?_
              refine SW.iload (q := 94) (i := 5) dX8_lowest_92 rfl rfl ?_
              refine SW.if_eq (q := 97) (tgt := 102) dX8_lowest_94 (by decide) rfl (fun c94 => absurd c94 ((by decide))) (fun _ => ?_)
              refine SW.iload (q := 99) (i := 4) dX8_lowest_97 rfl rfl ?_
              refine SW.goto (q := 103) dX8_lowest_99 (by decide) ?_
              refine SW.istore_n (q := 104) (i := 2) dX8_lowest_103 rfl (by decide) rfl ?_
              refine SW.iinc (q := 107) (v := _ + 1) dX8_lowest_104 rfl rfl (by decide) rfl ?_
              refine SW.goto (q := 5) dX8_lowest_107 (by decide) ?_
              exact SW.eq (by rw [nI_1]; rfl) rfl rfl (take (fun b' z => by cases z; omega) _ _)
            · by_cases heq : lv q0 = lv b
              · by_cases hod : od q0 < od b
                · refine SW.iload_n (q := 6) (i := 3) dX8_lowest_5 rfl rfl rfl ?_
                  refine SW.iconst (q := 7) (v := 4) dX8_lowest_6 (by decide) rfl ?_
                  refine SW.icmp_ge (q := 10) (tgt := 110) dX8_lowest_7 (by decide) rfl (fun c7 => absurd c7 ((nI_ge (a := e) (b := 4) (by omega) (by omega)))) (fun _ => ?_)
                  refine SW.aload_n (q := 11) (i := 0) dX8_lowest_10 rfl rfl rfl ?_
                  refine SW.iload_n (q := 12) (i := 1) dX8_lowest_11 rfl rfl rfl ?_
                  refine SW.iload_n (q := 13) (i := 3) dX8_lowest_12 rfl rfl rfl ?_
                  refine SW.cF (q := 16) (C_X8_beside hM rfl rfl hp (by omega)) vX8_114 (by decide) rfl rfl rfl rfl (Nat.le_of_ble_eq_true rfl) dX8_lowest_13 rfl ?_
                  rw [hq, q0i]
                  refine SW.istore (q := 18) (i := 4) dX8_lowest_16 (by decide) rfl ?_
                  refine SW.iload (q := 20) (i := 4) dX8_lowest_18 rfl rfl ?_
                  refine SW.if_lt (q := 23) (tgt := 104) dX8_lowest_20 (by decide) rfl (fun c20 => absurd c20 ((nI_pos (by omega)))) (fun _ => ?_)
                  refine SW.aload_n (q := 24) (i := 0) dX8_lowest_23 rfl rfl rfl ?_
                  refine SW.getR (q := 27) (i := 59) (j := 67) fX8_35 rfl rfl dX8_lowest_24 rfl ?_
                  refine SW.iload (q := 29) (i := 4) dX8_lowest_27 rfl rfl ?_
                  refine SW.ialdN (q := 30) (k := q0) rfl (rfl) (by omega) (by decide) dX8_lowest_29 rfl ?_
                  refine SW.if_lt (q := 33) (tgt := 104) dX8_lowest_30 (by decide) rfl (fun c30 => absurd c30 ((by rw [t1]; exact nI_pos (by omega)))) (fun _ => ?_)
                  refine SW.iload_n (q := 34) (i := 2) dX8_lowest_33 rfl rfl rfl ?_
                  refine SW.if_lt (q := 37) (tgt := 85) dX8_lowest_34 (by decide) rfl (fun c34 => absurd c34 ((nI_pos (by omega)))) (fun _ => ?_)
                  refine SW.aload_n (q := 38) (i := 0) dX8_lowest_37 rfl rfl rfl ?_
                  refine SW.getR (q := 41) (i := 59) (j := 65) fX8_29 rfl rfl dX8_lowest_38 rfl ?_
                  refine SW.iload (q := 43) (i := 4) dX8_lowest_41 rfl rfl ?_
                  refine SW.ialdN (q := 44) (k := q0) rfl (rfl) (by omega) (by decide) dX8_lowest_43 rfl ?_
                  refine SW.aload_n (q := 45) (i := 0) dX8_lowest_44 rfl rfl rfl ?_
                  refine SW.getR (q := 48) (i := 59) (j := 65) fX8_29 rfl rfl dX8_lowest_45 rfl ?_
                  refine SW.iload_n (q := 49) (i := 2) dX8_lowest_48 rfl rfl rfl ?_
                  refine SW.ialdN (q := 50) (k := b) rfl (rfl) (by omega) (by decide) dX8_lowest_49 rfl ?_
                  refine SW.icmp_lt (q := 53) (tgt := 85) dX8_lowest_50 (by decide) rfl (fun c50 => absurd c50 ((by rw [t3, s3]; exact nI_nlt (by omega) (by omega)))) (fun _ => ?_)
                  refine SW.aload_n (q := 54) (i := 0) dX8_lowest_53 rfl rfl rfl ?_
                  refine SW.getR (q := 57) (i := 59) (j := 65) fX8_29 rfl rfl dX8_lowest_54 rfl ?_
                  refine SW.iload (q := 59) (i := 4) dX8_lowest_57 rfl rfl ?_
                  refine SW.ialdN (q := 60) (k := q0) rfl (rfl) (by omega) (by decide) dX8_lowest_59 rfl ?_
                  refine SW.aload_n (q := 61) (i := 0) dX8_lowest_60 rfl rfl rfl ?_
                  refine SW.getR (q := 64) (i := 59) (j := 65) fX8_29 rfl rfl dX8_lowest_61 rfl ?_
                  refine SW.iload_n (q := 65) (i := 2) dX8_lowest_64 rfl rfl rfl ?_
                  refine SW.ialdN (q := 66) (k := b) rfl (rfl) (by omega) (by decide) dX8_lowest_65 rfl ?_
                  refine SW.icmp_ne (q := 69) (tgt := 89) dX8_lowest_66 (by decide) rfl (fun c66 => absurd ((by rw [t3, s3, heq])) c66) (fun _ => ?_)
                  refine SW.aload_n (q := 70) (i := 0) dX8_lowest_69 rfl rfl rfl ?_
                  refine SW.getR (q := 73) (i := 59) (j := 67) fX8_35 rfl rfl dX8_lowest_70 rfl ?_
                  refine SW.iload (q := 75) (i := 4) dX8_lowest_73 rfl rfl ?_
                  refine SW.ialdN (q := 76) (k := q0) rfl (rfl) (by omega) (by decide) dX8_lowest_75 rfl ?_
                  refine SW.aload_n (q := 77) (i := 0) dX8_lowest_76 rfl rfl rfl ?_
                  refine SW.getR (q := 80) (i := 59) (j := 67) fX8_35 rfl rfl dX8_lowest_77 rfl ?_
                  refine SW.iload_n (q := 81) (i := 2) dX8_lowest_80 rfl rfl rfl ?_
                  refine SW.ialdN (q := 82) (k := b) rfl (rfl) (by omega) (by decide) dX8_lowest_81 rfl ?_
                  refine SW.icmp_ge (q := 85) (tgt := 89) dX8_lowest_82 (by decide) rfl (fun c82 => absurd c82 ((by rw [t1, s1]; exact nI_ge hod (by omega)))) (fun _ => ?_)
                  refine SW.iconst (q := 86) (v := 1) dX8_lowest_85 (by decide) rfl ?_
                  refine SW.goto (q := 90) dX8_lowest_86 (by decide) ?_
                  refine SW.istore (q := 92) (i := 5) dX8_lowest_90 (by decide) rfl ?_
                  refine SW.iload (q := 94) (i := 5) dX8_lowest_92 rfl rfl ?_
                  refine SW.if_eq (q := 97) (tgt := 102) dX8_lowest_94 (by decide) rfl (fun c94 => absurd c94 ((by decide))) (fun _ => ?_)
                  refine SW.iload (q := 99) (i := 4) dX8_lowest_97 rfl rfl ?_
                  refine SW.goto (q := 103) dX8_lowest_99 (by decide) ?_
                  refine SW.istore_n (q := 104) (i := 2) dX8_lowest_103 rfl (by decide) rfl ?_
                  refine SW.iinc (q := 107) (v := _ + 1) dX8_lowest_104 rfl rfl (by decide) rfl ?_
                  refine SW.goto (q := 5) dX8_lowest_107 (by decide) ?_
                  exact SW.eq (by rw [nI_1]; rfl) rfl rfl (take (fun b' z => by cases z; omega) _ _)
                · refine SW.iload_n (q := 6) (i := 3) dX8_lowest_5 rfl rfl rfl ?_
                  refine SW.iconst (q := 7) (v := 4) dX8_lowest_6 (by decide) rfl ?_
                  refine SW.icmp_ge (q := 10) (tgt := 110) dX8_lowest_7 (by decide) rfl (fun c7 => absurd c7 ((nI_ge (a := e) (b := 4) (by omega) (by omega)))) (fun _ => ?_)
                  refine SW.aload_n (q := 11) (i := 0) dX8_lowest_10 rfl rfl rfl ?_
                  refine SW.iload_n (q := 12) (i := 1) dX8_lowest_11 rfl rfl rfl ?_
                  refine SW.iload_n (q := 13) (i := 3) dX8_lowest_12 rfl rfl rfl ?_
                  refine SW.cF (q := 16) (C_X8_beside hM rfl rfl hp (by omega)) vX8_114 (by decide) rfl rfl rfl rfl (Nat.le_of_ble_eq_true rfl) dX8_lowest_13 rfl ?_
                  rw [hq, q0i]
                  refine SW.istore (q := 18) (i := 4) dX8_lowest_16 (by decide) rfl ?_
                  refine SW.iload (q := 20) (i := 4) dX8_lowest_18 rfl rfl ?_
                  refine SW.if_lt (q := 23) (tgt := 104) dX8_lowest_20 (by decide) rfl (fun c20 => absurd c20 ((nI_pos (by omega)))) (fun _ => ?_)
                  refine SW.aload_n (q := 24) (i := 0) dX8_lowest_23 rfl rfl rfl ?_
                  refine SW.getR (q := 27) (i := 59) (j := 67) fX8_35 rfl rfl dX8_lowest_24 rfl ?_
                  refine SW.iload (q := 29) (i := 4) dX8_lowest_27 rfl rfl ?_
                  refine SW.ialdN (q := 30) (k := q0) rfl (rfl) (by omega) (by decide) dX8_lowest_29 rfl ?_
                  refine SW.if_lt (q := 33) (tgt := 104) dX8_lowest_30 (by decide) rfl (fun c30 => absurd c30 ((by rw [t1]; exact nI_pos (by omega)))) (fun _ => ?_)
                  refine SW.iload_n (q := 34) (i := 2) dX8_lowest_33 rfl rfl rfl ?_
                  refine SW.if_lt (q := 37) (tgt := 85) dX8_lowest_34 (by decide) rfl (fun c34 => absurd c34 ((nI_pos (by omega)))) (fun _ => ?_)
                  refine SW.aload_n (q := 38) (i := 0) dX8_lowest_37 rfl rfl rfl ?_
                  refine SW.getR (q := 41) (i := 59) (j := 65) fX8_29 rfl rfl dX8_lowest_38 rfl ?_
                  refine SW.iload (q := 43) (i := 4) dX8_lowest_41 rfl rfl ?_
                  refine SW.ialdN (q := 44) (k := q0) rfl (rfl) (by omega) (by decide) dX8_lowest_43 rfl ?_
                  refine SW.aload_n (q := 45) (i := 0) dX8_lowest_44 rfl rfl rfl ?_
                  refine SW.getR (q := 48) (i := 59) (j := 65) fX8_29 rfl rfl dX8_lowest_45 rfl ?_
                  refine SW.iload_n (q := 49) (i := 2) dX8_lowest_48 rfl rfl rfl ?_
                  refine SW.ialdN (q := 50) (k := b) rfl (rfl) (by omega) (by decide) dX8_lowest_49 rfl ?_
                  refine SW.icmp_lt (q := 53) (tgt := 85) dX8_lowest_50 (by decide) rfl (fun c50 => absurd c50 ((by rw [t3, s3]; exact nI_nlt (by omega) (by omega)))) (fun _ => ?_)
                  refine SW.aload_n (q := 54) (i := 0) dX8_lowest_53 rfl rfl rfl ?_
                  refine SW.getR (q := 57) (i := 59) (j := 65) fX8_29 rfl rfl dX8_lowest_54 rfl ?_
                  refine SW.iload (q := 59) (i := 4) dX8_lowest_57 rfl rfl ?_
                  refine SW.ialdN (q := 60) (k := q0) rfl (rfl) (by omega) (by decide) dX8_lowest_59 rfl ?_
                  refine SW.aload_n (q := 61) (i := 0) dX8_lowest_60 rfl rfl rfl ?_
                  refine SW.getR (q := 64) (i := 59) (j := 65) fX8_29 rfl rfl dX8_lowest_61 rfl ?_
                  refine SW.iload_n (q := 65) (i := 2) dX8_lowest_64 rfl rfl rfl ?_
                  refine SW.ialdN (q := 66) (k := b) rfl (rfl) (by omega) (by decide) dX8_lowest_65 rfl ?_
                  refine SW.icmp_ne (q := 69) (tgt := 89) dX8_lowest_66 (by decide) rfl (fun c66 => absurd ((by rw [t3, s3, heq])) c66) (fun _ => ?_)
                  refine SW.aload_n (q := 70) (i := 0) dX8_lowest_69 rfl rfl rfl ?_
                  refine SW.getR (q := 73) (i := 59) (j := 67) fX8_35 rfl rfl dX8_lowest_70 rfl ?_
                  refine SW.iload (q := 75) (i := 4) dX8_lowest_73 rfl rfl ?_
                  refine SW.ialdN (q := 76) (k := q0) rfl (rfl) (by omega) (by decide) dX8_lowest_75 rfl ?_
                  refine SW.aload_n (q := 77) (i := 0) dX8_lowest_76 rfl rfl rfl ?_
                  refine SW.getR (q := 80) (i := 59) (j := 67) fX8_35 rfl rfl dX8_lowest_77 rfl ?_
                  refine SW.iload_n (q := 81) (i := 2) dX8_lowest_80 rfl rfl rfl ?_
                  refine SW.ialdN (q := 82) (k := b) rfl (rfl) (by omega) (by decide) dX8_lowest_81 rfl ?_
                  refine SW.icmp_ge (q := 85) (tgt := 89) dX8_lowest_82 (by decide) rfl (fun _ => ?_) (fun c82 => absurd ((by rw [t1, s1]; exact nI_le (by omega) (by omega))) c82)
                  refine SW.iconst (q := 90) (v := 0) dX8_lowest_89 (by decide) rfl ?_
                  refine SW.istore (q := 92) (i := 5) dX8_lowest_90 (by decide) rfl ?_
                  refine SW.iload (q := 94) (i := 5) dX8_lowest_92 rfl rfl ?_
                  refine SW.if_eq (q := 97) (tgt := 102) dX8_lowest_94 (by decide) rfl (fun _ => ?_) (fun c94 => absurd (rfl) c94)
                  refine SW.iload_n (q := 103) (i := 2) dX8_lowest_102 rfl rfl rfl ?_
                  refine SW.istore_n (q := 104) (i := 2) dX8_lowest_103 rfl (by decide) rfl ?_
                  refine SW.iinc (q := 107) (v := _ + 1) dX8_lowest_104 rfl rfl (by decide) rfl ?_
                  refine SW.goto (q := 5) dX8_lowest_107 (by decide) ?_
                  exact SW.eq (by rw [nI_1]; rfl) rfl rfl (keep (fun q z _ => by rw [hq] at z; cases z; exact ⟨b, rfl, by omega⟩) _ _)
              · refine SW.iload_n (q := 6) (i := 3) dX8_lowest_5 rfl rfl rfl ?_
                refine SW.iconst (q := 7) (v := 4) dX8_lowest_6 (by decide) rfl ?_
                refine SW.icmp_ge (q := 10) (tgt := 110) dX8_lowest_7 (by decide) rfl (fun c7 => absurd c7 ((nI_ge (a := e) (b := 4) (by omega) (by omega)))) (fun _ => ?_)
                refine SW.aload_n (q := 11) (i := 0) dX8_lowest_10 rfl rfl rfl ?_
                refine SW.iload_n (q := 12) (i := 1) dX8_lowest_11 rfl rfl rfl ?_
                refine SW.iload_n (q := 13) (i := 3) dX8_lowest_12 rfl rfl rfl ?_
                refine SW.cF (q := 16) (C_X8_beside hM rfl rfl hp (by omega)) vX8_114 (by decide) rfl rfl rfl rfl (Nat.le_of_ble_eq_true rfl) dX8_lowest_13 rfl ?_
                rw [hq, q0i]
                refine SW.istore (q := 18) (i := 4) dX8_lowest_16 (by decide) rfl ?_
                refine SW.iload (q := 20) (i := 4) dX8_lowest_18 rfl rfl ?_
                refine SW.if_lt (q := 23) (tgt := 104) dX8_lowest_20 (by decide) rfl (fun c20 => absurd c20 ((nI_pos (by omega)))) (fun _ => ?_)
                refine SW.aload_n (q := 24) (i := 0) dX8_lowest_23 rfl rfl rfl ?_
                refine SW.getR (q := 27) (i := 59) (j := 67) fX8_35 rfl rfl dX8_lowest_24 rfl ?_
                refine SW.iload (q := 29) (i := 4) dX8_lowest_27 rfl rfl ?_
                refine SW.ialdN (q := 30) (k := q0) rfl (rfl) (by omega) (by decide) dX8_lowest_29 rfl ?_
                refine SW.if_lt (q := 33) (tgt := 104) dX8_lowest_30 (by decide) rfl (fun c30 => absurd c30 ((by rw [t1]; exact nI_pos (by omega)))) (fun _ => ?_)
                refine SW.iload_n (q := 34) (i := 2) dX8_lowest_33 rfl rfl rfl ?_
                refine SW.if_lt (q := 37) (tgt := 85) dX8_lowest_34 (by decide) rfl (fun c34 => absurd c34 ((nI_pos (by omega)))) (fun _ => ?_)
                refine SW.aload_n (q := 38) (i := 0) dX8_lowest_37 rfl rfl rfl ?_
                refine SW.getR (q := 41) (i := 59) (j := 65) fX8_29 rfl rfl dX8_lowest_38 rfl ?_
                refine SW.iload (q := 43) (i := 4) dX8_lowest_41 rfl rfl ?_
                refine SW.ialdN (q := 44) (k := q0) rfl (rfl) (by omega) (by decide) dX8_lowest_43 rfl ?_
                refine SW.aload_n (q := 45) (i := 0) dX8_lowest_44 rfl rfl rfl ?_
                refine SW.getR (q := 48) (i := 59) (j := 65) fX8_29 rfl rfl dX8_lowest_45 rfl ?_
                refine SW.iload_n (q := 49) (i := 2) dX8_lowest_48 rfl rfl rfl ?_
                refine SW.ialdN (q := 50) (k := b) rfl (rfl) (by omega) (by decide) dX8_lowest_49 rfl ?_
                refine SW.icmp_lt (q := 53) (tgt := 85) dX8_lowest_50 (by decide) rfl (fun c50 => absurd c50 ((by rw [t3, s3]; exact nI_nlt (by omega) (by omega)))) (fun _ => ?_)
                refine SW.aload_n (q := 54) (i := 0) dX8_lowest_53 rfl rfl rfl ?_
                refine SW.getR (q := 57) (i := 59) (j := 65) fX8_29 rfl rfl dX8_lowest_54 rfl ?_
                refine SW.iload (q := 59) (i := 4) dX8_lowest_57 rfl rfl ?_
                refine SW.ialdN (q := 60) (k := q0) rfl (rfl) (by omega) (by decide) dX8_lowest_59 rfl ?_
                refine SW.aload_n (q := 61) (i := 0) dX8_lowest_60 rfl rfl rfl ?_
                refine SW.getR (q := 64) (i := 59) (j := 65) fX8_29 rfl rfl dX8_lowest_61 rfl ?_
                refine SW.iload_n (q := 65) (i := 2) dX8_lowest_64 rfl rfl rfl ?_
                refine SW.ialdN (q := 66) (k := b) rfl (rfl) (by omega) (by decide) dX8_lowest_65 rfl ?_
                refine SW.icmp_ne (q := 69) (tgt := 89) dX8_lowest_66 (by decide) rfl (fun _ => ?_) (fun c66 => absurd c66 ((by rw [t3, s3, nI_eq (by omega) (by omega)]; exact heq)))
                refine SW.iconst (q := 90) (v := 0) dX8_lowest_89 (by decide) rfl ?_
                refine SW.istore (q := 92) (i := 5) dX8_lowest_90 (by decide) rfl ?_
                refine SW.iload (q := 94) (i := 5) dX8_lowest_92 rfl rfl ?_
                refine SW.if_eq (q := 97) (tgt := 102) dX8_lowest_94 (by decide) rfl (fun _ => ?_) (fun c94 => absurd (rfl) c94)
                refine SW.iload_n (q := 103) (i := 2) dX8_lowest_102 rfl rfl rfl ?_
                refine SW.istore_n (q := 104) (i := 2) dX8_lowest_103 rfl (by decide) rfl ?_
                refine SW.iinc (q := 107) (v := _ + 1) dX8_lowest_104 rfl rfl (by decide) rfl ?_
                refine SW.goto (q := 5) dX8_lowest_107 (by decide) ?_
                exact SW.eq (by rw [nI_1]; rfl) rfl rfl (keep (fun q z _ => by rw [hq] at z; cases z; exact ⟨b, rfl, by omega⟩) _ _)
        · have t67 := r4 q0 q0l ht
          refine SW.iload_n (q := 6) (i := 3) dX8_lowest_5 rfl rfl rfl ?_
          refine SW.iconst (q := 7) (v := 4) dX8_lowest_6 (by decide) rfl ?_
          refine SW.icmp_ge (q := 10) (tgt := 110) dX8_lowest_7 (by decide) rfl (fun c7 => absurd c7 ((nI_ge (a := e) (b := 4) (by omega) (by omega)))) (fun _ => ?_)
          refine SW.aload_n (q := 11) (i := 0) dX8_lowest_10 rfl rfl rfl ?_
          refine SW.iload_n (q := 12) (i := 1) dX8_lowest_11 rfl rfl rfl ?_
          refine SW.iload_n (q := 13) (i := 3) dX8_lowest_12 rfl rfl rfl ?_
          refine SW.cF (q := 16) (C_X8_beside hM rfl rfl hp (by omega)) vX8_114 (by decide) rfl rfl rfl rfl (Nat.le_of_ble_eq_true rfl) dX8_lowest_13 rfl ?_
          rw [hq, q0i]
          refine SW.istore (q := 18) (i := 4) dX8_lowest_16 (by decide) rfl ?_
          refine SW.iload (q := 20) (i := 4) dX8_lowest_18 rfl rfl ?_
          refine SW.if_lt (q := 23) (tgt := 104) dX8_lowest_20 (by decide) rfl (fun c20 => absurd c20 ((nI_pos (by omega)))) (fun _ => ?_)
          refine SW.aload_n (q := 24) (i := 0) dX8_lowest_23 rfl rfl rfl ?_
          refine SW.getR (q := 27) (i := 59) (j := 67) fX8_35 rfl rfl dX8_lowest_24 rfl ?_
          refine SW.iload (q := 29) (i := 4) dX8_lowest_27 rfl rfl ?_
          refine SW.ialdN (q := 30) (k := q0) rfl (rfl) (by omega) (by decide) dX8_lowest_29 rfl ?_
          refine SW.if_lt (q := 33) (tgt := 104) dX8_lowest_30 (by decide) rfl (fun _ => ?_) (fun c30 => absurd ((by rw [t67]; decide)) c30)
          refine SW.iinc (q := 107) (v := _ + 1) dX8_lowest_104 rfl rfl (by decide) rfl ?_
          refine SW.goto (q := 5) dX8_lowest_107 (by decide) ?_
          exact SW.eq (by rw [nI_1]; rfl) rfl rfl (keep (fun q z ht' => by rw [hq] at z; cases z; exact absurd ht' ht) _ _)
  refine SW.bipush (q := 2) (v := (-6)) dX8_lowest_0 (by decide) rfl ?_
  refine SW.istore_n (q := 3) (i := 2) dX8_lowest_2 rfl (by decide) rfl ?_
  refine SW.iconst (q := 4) (v := 0) dX8_lowest_3 (by decide) rfl ?_
  refine SW.istore_n (q := 5) (i := 3) dX8_lowest_4 rfl (by decide) rfl ?_
  exact loop 4 0 rfl _ _ none (fun _ e' q he' => absurd he' (Nat.not_lt_zero _)) (fun f hf => by cases hf)
end MLOW
