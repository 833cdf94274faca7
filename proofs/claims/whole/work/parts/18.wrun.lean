/-! WATER in the class: outlets, then the others -/
theorem inj_le {M N : Nat} {f : Nat → Nat} (h1 : ∀ i, i < N → f i < M) (h2 : ∀ i j, i < N → j < N → f i = f j → i = j) : N ≤ M := by
  rcases Nat.lt_or_ge M N with q | q
  · obtain ⟨i, i1, i2⟩ := wt_pig N f (fun i hi => Nat.lt_trans (h1 i hi) q) h2 M q
    have := h1 i i1
    omega
  · exact q
theorem wt_K {n : Nat} {h : Nat → Nat} {sea K p : Nat} {T lv od : Nat → Nat} {D : Nat → Option Nat} (a : wt_ok n h sea K T lv od D) (hp : p < n * n) (hn : ¬ wt_tk T K p) : K < n * n := by
  have h1 : K ≤ n * n := inj_le (fun i hi => (a.1 i hi).1) (fun _ _ hi hj e => wt_inj a.1 hi hj e)
  rcases Nat.lt_or_ge K (n * n) with q | q
  · exact q
  · obtain rfl : K = n * n := by omega
    exact absurd (wt_all a p hp) hn
theorem wt_full {n : Nat} {h : Nat → Nat} {sea K : Nat} {T lv od : Nat → Nat} {D : Nat → Option Nat} (a : wt_ok n h sea K T lv od D) (hall : ∀ p, p < n * n → wt_tk T K p) : K = n * n := by
  have h1 : K ≤ n * n := inj_le (fun i hi => (a.1 i hi).1) (fun _ _ hi hj e => wt_inj a.1 hi hj e)
  have h2 : n * n ≤ K := by
    refine inj_le (f := od) (fun p hp => ?_) (fun p q hp hq e => ?_)
    · obtain ⟨i, i1, i2⟩ := hall p hp
      rw [← i2, (a.1 i i1).2]; exact i1
    · obtain ⟨i, i1, i2⟩ := hall p hp
      obtain ⟨j, j1, j2⟩ := hall q hq
      rw [← i2, ← j2, (a.1 i i1).2, (a.1 j j1).2] at e
      rw [← i2, ← j2, e]
  omega
/-- where the water comes to -/
def wo_ok (n K : Nat) (T : Nat → Nat) (D : Nat → Option Nat) (O : Nat → Nat) : Prop := ∀ q, q < n * n → wt_tk T K q → O q < n * n ∧ (D q = none → O q = q) ∧ ∀ r, D q = some r → O q = O r
def ww_I (n : Nat) (h : Nat → Nat) (sea K c : Nat) (T lv od : Nat → Nat) (D : Nat → Option Nat) (O : Nat → Nat) (τ : sw_Sg) : Prop :=
  ww_G n h τ ∧ wt_ok n h sea K T lv od D ∧ ww_R n K T lv od D O τ ∧ ww_H n h (fun _ r => wt_tk T K r) (fun q => ¬ wt_tk T K q) lv c τ ∧ wo_ok n K T D O
theorem wo_snoc {n K p o : Nat} {T : Nat → Nat} {D : Nat → Option Nat} {O : Nat → Nat} {r : Option Nat} (a : wo_ok n K T D O) (hp : p < n * n) (hn : ¬ wt_tk T K p) (ho : o < n * n) (hd : ∀ q r, q < n * n → wt_tk T K q → D q = some r → wt_tk T K r) (hr : (r = none ∧ o = p) ∨ ∃ r0, r = some r0 ∧ wt_tk T K r0 ∧ o = O r0) : wo_ok n (K + 1) (va_up T K p) (va_up D p r) (va_up O p o) := by
  intro q hq ht
  by_cases z : q = p
  · subst z
    rw [up_i, up_i]
    refine ⟨ho, fun e => ?_, fun r1 e => ?_⟩
    · rcases hr with ⟨-, h⟩ | ⟨r0, h, -⟩
      · exact h
      · rw [h] at e; cases e
    · rcases hr with ⟨h, -⟩ | ⟨r0, h, h2, h3⟩
      · rw [h] at e; cases e
      · rw [h] at e; cases e
        rw [up_o (fun z => hn (by rw [← z]; exact h2))]
        exact h3
  · have ht2 := (wt_tk_snoc.mp ht).resolve_right z
    rw [up_o z, up_o z]
    obtain ⟨a1, a2, a3⟩ := a q hq ht2
    refine ⟨a1, a2, fun r1 e => ?_⟩
    rw [up_o (fun z => hn (by rw [← z]; exact hd q r1 hq ht2 e))]
    exact a3 r1 e
theorem wt_D {n : Nat} {h : Nat → Nat} {sea K q r : Nat} {T lv od : Nat → Nat} {D : Nat → Option Nat} (a : wt_ok n h sea K T lv od D) (ht : wt_tk T K q) (hd : D q = some r) : wt_tk T K r ∧ r < n * n ∧ od r < od q ∧ q < n * n ∧ wl_adj n q r := by
  obtain ⟨i, i1, i2⟩ := ht
  have hi := a.1 i i1
  rcases a.2 i i1 with ⟨s1, s2, s3, s4⟩ | ⟨s1, r0, s2, s3, s4, s5⟩
  · rw [i2, hd] at s4; cases s4
  · rw [i2, hd] at s4; cases s4
    obtain ⟨⟨e, e4, ea⟩, ⟨j, j1, j2⟩, -⟩ := s2
    have hj := a.1 j (by omega)
    rw [i2] at hi
    refine ⟨⟨j, by omega, j2⟩, by rw [← j2]; exact hj.1, ?_, hi.1, ⟨e, e4, by rw [← i2]; exact ea⟩⟩
    rw [hi.2, ← j2, hj.2]; exact j1
section WRUN
variable {X : sw_X} {σ : sw_Sg} {x y v : Int32} {n p q K c l o m sea : Nat} {h T lv od O : Nat → Nat} {D : Nat → Option Nat} {r : Option Nat}
theorem C_X6_firstTakenBeside (hG : ww_G n h σ) (hR : ww_R n K T lv od D O σ) (hx : x = nI p) (hp : p < n * n) (hm : σ 47 p = nI m) (hml : wl_least n (wt_tk T K) lv p m) :
    sw_Mi X 2 mX6_firstTakenBeside [.ref (sw_ad X 2), .ref (sw_ad X 1), .int x] σ (fun v u => ∃ r0, v = nI r0 ∧ r0 < n * n ∧ wt_low n T lv od K p r0 ∧ lv r0 = m ∧ u = σ) := by
  subst hx
  have n24 : n ≤ 24 := hG.1.2.1
  have h576 := gr_576 n24
  obtain ⟨r1, r2, r3, r4⟩ := hR
  have hm400 : m ≤ 400 := by
    obtain ⟨⟨r, ⟨e, e4, ea⟩, hr2, hr3⟩, -⟩ := hml
    rw [← hr3]; exact (r3 r (gr_nb_lt hp ea).1 hr2).2.2.2.1
  refine sw_ME.ofF (by decide +kernel) rfl (Nat.le_of_ble_eq_true rfl) rfl ?_
  have loop : ∀ (k e : Nat), e + k = 4 → ∀ (B : Value) (fo : Option Nat), (fo = none → ∀ e' q, e' < e → gr_nb n p e' = some q → wt_tk T K q → lv q ≠ m) → (∀ f, fo = some f → f < n * n ∧ wl_adj n p f ∧ wt_tk T K f ∧ lv f = m ∧ ∀ e' q, e' < e → gr_nb n p e' = some q → wt_tk T K q → lv q = m → od f ≤ od q) →
      SW X 2 mX6_firstTakenBeside sw_E0 (sw_Ri (fun v u => ∃ r0, v = nI r0 ∧ r0 < n * n ∧ wt_low n T lv od K p r0 ∧ lv r0 = m ∧ u = σ)) 6 [.ref (sw_ad X 2), .ref (sw_ad X 1), .int (nI p), .int (gr_v fo), .int (nI e), B] [] σ := by
    intro k
    induction k with
    | zero =>
      intro e he B fo h0 h1
      obtain rfl : e = 4 := by omega
      refine SW.iload (q := 8) (i := 4) dX6_firstTakenBeside_6 rfl rfl ?_
      refine SW.iconst (q := 9) (v := 4) dX6_firstTakenBeside_8 (by decide) rfl ?_
      refine SW.icmp_ge (q := 12) (tgt := 97) dX6_firstTakenBeside_9 (by decide) rfl (fun _ => ?_) (fun c9 => absurd ((by decide)) c9)
      refine SW.iload_n (q := 98) (i := 3) dX6_firstTakenBeside_97 rfl rfl rfl ?_
      refine SW.iretR rfl rfl dX6_firstTakenBeside_98 ?_
      cases fo with
      | none =>
        obtain ⟨⟨r, ⟨e, e4, ea⟩, hr2, hr3⟩, -⟩ := hml
        exact absurd hr3 (h0 rfl e r e4 ea hr2)
      | some f =>
        obtain ⟨f1, f2, f3, f4, f5⟩ := h1 f rfl
        refine ⟨f, rfl, f1, ⟨f2, f3, fun e r' e4 ea ht => ?_⟩, f4, rfl⟩
        have := hml.2 r' ⟨e, e4, ea⟩ ht
        by_cases z : lv r' = m
        · exact Or.inr ⟨by omega, f5 e r' e4 ea ht z⟩
        · exact Or.inl (by omega)
    | succ k ih =>
      intro e he B fo h0 h1
      have keep : (∀ q, gr_nb n p e = some q → wt_tk T K q → lv q ≠ m ∨ ∃ f, fo = some f ∧ od f ≤ od q) → ∀ B', SW X 2 mX6_firstTakenBeside sw_E0 (sw_Ri (fun v u => ∃ r0, v = nI r0 ∧ r0 < n * n ∧ wt_low n T lv od K p r0 ∧ lv r0 = m ∧ u = σ)) 6 [.ref (sw_ad X 2), .ref (sw_ad X 1), .int (nI p), .int (gr_v fo), .int (nI (e + 1)), B'] [] σ := by
        intro hk B'
        refine ih (e + 1) (by omega) B' fo (fun hn e' q he' hq ht => ?_) (fun f hf => ?_)
        · by_cases z : e' = e
          · subst z
            rcases hk q hq ht with a | ⟨f, a, -⟩
            · exact a
            · rw [hn] at a; cases a
          · exact h0 hn e' q (by omega) hq ht
        · obtain ⟨f1, f2, f3, f4, f5⟩ := h1 f hf
          refine ⟨f1, f2, f3, f4, fun e' q he' hq ht hl => ?_⟩
          by_cases z : e' = e
          · subst z
            rcases hk q hq ht with a | ⟨f', a, b⟩
            · exact absurd hl a
            · rw [hf] at a; cases a; exact b
          · exact f5 e' q (by omega) hq ht hl
      cases hq : gr_nb n p e with
      | none =>
        refine SW.iload (q := 8) (i := 4) dX6_firstTakenBeside_6 rfl rfl ?_
        refine SW.iconst (q := 9) (v := 4) dX6_firstTakenBeside_8 (by decide) rfl ?_
        refine SW.icmp_ge (q := 12) (tgt := 97) dX6_firstTakenBeside_9 (by decide) rfl (fun c9 => absurd c9 ((nI_ge (a := e) (b := 4) (by omega) (by omega)))) (fun _ => ?_)
        refine SW.aload_n (q := 13) (i := 1) dX6_firstTakenBeside_12 rfl rfl rfl ?_
        refine SW.iload_n (q := 14) (i := 2) dX6_firstTakenBeside_13 rfl rfl rfl ?_
        refine SW.iload (q := 16) (i := 4) dX6_firstTakenBeside_14 rfl rfl ?_
        refine SW.cF (q := 19) (C_X5_beside hG.1 rfl rfl hp (by omega)) vX6_108 (by decide) rfl rfl rfl rfl (Nat.le_of_ble_eq_true rfl) dX6_firstTakenBeside_16 rfl ?_
        rw [hq]
        refine SW.istore (q := 21) (i := 5) dX6_firstTakenBeside_19 (by decide) rfl ?_
        refine SW.iload (q := 23) (i := 5) dX6_firstTakenBeside_21 rfl rfl ?_
        refine SW.bipush (q := 25) (v := (-6)) dX6_firstTakenBeside_23 (by decide) rfl ?_
        refine SW.icmp_eq (q := 28) (tgt := 91) dX6_firstTakenBeside_25 (by decide) rfl (fun _ => ?_) (fun c25 => absurd (rfl) c25)
        refine SW.iinc (q := 94) (v := _ + 1) dX6_firstTakenBeside_91 rfl rfl (by decide) rfl ?_
        refine SW.goto (q := 6) dX6_firstTakenBeside_94 (by decide) ?_
        exact SW.eq (by rw [nI_1]; rfl) rfl rfl (keep (fun q z => by rw [hq] at z; cases z) _)
      | some q0 =>
        obtain ⟨q0l, q0n, -⟩ := gr_nb_lt hp hq
        have q0i : gr_v (some q0) = nI q0 := rfl
        by_cases ht : wt_tk T K q0
        · obtain ⟨t1, t2, t3, t4, -⟩ := r3 q0 q0l ht
          by_cases hl : lv q0 = m
          · cases fo with
            | none =>
              refine SW.iload (q := 8) (i := 4) dX6_firstTakenBeside_6 rfl rfl ?_
              refine SW.iconst (q := 9) (v := 4) dX6_firstTakenBeside_8 (by decide) rfl ?_
              refine SW.icmp_ge (q := 12) (tgt := 97) dX6_firstTakenBeside_9 (by decide) rfl (fun c9 => absurd c9 ((nI_ge (a := e) (b := 4) (by omega) (by omega)))) (fun _ => ?_)
              refine SW.aload_n (q := 13) (i := 1) dX6_firstTakenBeside_12 rfl rfl rfl ?_
              refine SW.iload_n (q := 14) (i := 2) dX6_firstTakenBeside_13 rfl rfl rfl ?_
              refine SW.iload (q := 16) (i := 4) dX6_firstTakenBeside_14 rfl rfl ?_
              refine SW.cF (q := 19) (C_X5_beside hG.1 rfl rfl hp (by omega)) vX6_108 (by decide) rfl rfl rfl rfl (Nat.le_of_ble_eq_true rfl) dX6_firstTakenBeside_16 rfl ?_
              rw [hq, q0i]
              refine SW.istore (q := 21) (i := 5) dX6_firstTakenBeside_19 (by decide) rfl ?_
              refine SW.iload (q := 23) (i := 5) dX6_firstTakenBeside_21 rfl rfl ?_
              refine SW.bipush (q := 25) (v := (-6)) dX6_firstTakenBeside_23 (by decide) rfl ?_
              refine SW.icmp_eq (q := 28) (tgt := 91) dX6_firstTakenBeside_25 (by decide) rfl (fun c25 => absurd c25 ((nI_n6 (by omega)))) (fun _ => ?_)
              refine SW.aload_n (q := 29) (i := 0) dX6_firstTakenBeside_28 rfl rfl rfl ?_
              refine SW.getR (q := 32) (i := 2) (j := 19) fX6_29 rfl rfl dX6_firstTakenBeside_29 rfl ?_
              refine SW.iload (q := 34) (i := 5) dX6_firstTakenBeside_32 rfl rfl ?_
              refine SW.cF (q := 37) (C_X3_atn (i := 19) (j := 45) (n := 576) rfl rfl (k := q0) rfl (by omega)) vX6_74 (by decide) rfl rfl rfl rfl (Nat.le_of_ble_eq_true rfl) dX6_firstTakenBeside_34 rfl ?_
              refine SW.bipush (q := 39) (v := (-6)) dX6_firstTakenBeside_37 (by decide) rfl ?_
              refine SW.icmp_eq (q := 42) (tgt := 91) dX6_firstTakenBeside_39 (by decide) rfl (fun c39 => absurd c39 ((by rw [t1]; exact nI_n6 (by omega)))) (fun _ => ?_)
              refine SW.aload_n (q := 43) (i := 0) dX6_firstTakenBeside_42 rfl rfl rfl ?_
              refine SW.getR (q := 46) (i := 2) (j := 15) fX6_14 rfl rfl dX6_firstTakenBeside_43 rfl ?_
              refine SW.iload (q := 48) (i := 5) dX6_firstTakenBeside_46 rfl rfl ?_
              refine SW.cF (q := 51) (C_X3_atn (i := 15) (j := 41) (n := 576) rfl rfl (k := q0) rfl (by omega)) vX6_74 (by decide) rfl rfl rfl rfl (Nat.le_of_ble_eq_true rfl) dX6_firstTakenBeside_48 rfl ?_
              refine SW.aload_n (q := 52) (i := 0) dX6_firstTakenBeside_51 rfl rfl rfl ?_
              refine SW.getR (q := 55) (i := 2) (j := 21) fX6_35 rfl rfl dX6_firstTakenBeside_52 rfl ?_
              refine SW.iload_n (q := 56) (i := 2) dX6_firstTakenBeside_55 rfl rfl rfl ?_
              refine SW.cF (q := 59) (C_X3_atn (i := 21) (j := 47) (n := 576) rfl rfl (k := p) rfl (by omega)) vX6_74 (by decide) rfl rfl rfl rfl (Nat.le_of_ble_eq_true rfl) dX6_firstTakenBeside_56 rfl ?_
              refine SW.icmp_ne (q := 62) (tgt := 91) dX6_firstTakenBeside_59 (by decide) rfl (fun c59 => absurd ((by rw [t3, hm, hl])) c59) (fun _ => ?_)
              refine SW.iload_n (q := 63) (i := 3) dX6_firstTakenBeside_62 rfl rfl rfl ?_
              refine SW.bipush (q := 65) (v := (-6)) dX6_firstTakenBeside_63 (by decide) rfl ?_
              refine SW.icmp_eq (q := 68) (tgt := 88) dX6_firstTakenBeside_65 (by decide) rfl (fun _ => ?_) (fun c65 => absurd (rfl) c65)
              refine SW.iload (q := 90) (i := 5) dX6_firstTakenBeside_88 rfl rfl ?_
              refine SW.istore_n (q := 91) (i := 3) dX6_firstTakenBeside_90 rfl (by decide) rfl ?_
              refine SW.iinc (q := 94) (v := _ + 1) dX6_firstTakenBeside_91 rfl rfl (by decide) rfl ?_
              refine SW.goto (q := 6) dX6_firstTakenBeside_94 (by decide) ?_
              refine SW.eq (by rw [nI_1]; rfl) rfl rfl (ih (e + 1) (by omega) _ (some q0) (fun z => by cases z) (fun f hf => ?_))
              cases hf
              refine ⟨q0l, ⟨e, by omega, hq⟩, ht, hl, fun e' q he' hq' ht' hl' => ?_⟩
              by_cases z : e' = e
              · subst z; rw [hq] at hq'; cases hq'; exact Nat.le_refl _
              · exact absurd hl' (h0 rfl e' q (by omega) hq' ht')
            | some f =>
              obtain ⟨f1, f2, f3, f4, f5⟩ := h1 f rfl
              have fi : gr_v (some f) = nI f := rfl
              obtain ⟨tf1, tf2, -⟩ := r3 f f1 f3
              by_cases hlt : od q0 < od f
              · refine SW.iload (q := 8) (i := 4) dX6_firstTakenBeside_6 rfl rfl ?_
                refine SW.iconst (q := 9) (v := 4) dX6_firstTakenBeside_8 (by decide) rfl ?_
                refine SW.icmp_ge (q := 12) (tgt := 97) dX6_firstTakenBeside_9 (by decide) rfl (fun c9 => absurd c9 ((nI_ge (a := e) (b := 4) (by omega) (by omega)))) (fun _ => ?_)
                refine SW.aload_n (q := 13) (i := 1) dX6_firstTakenBeside_12 rfl rfl rfl ?_
                refine SW.iload_n (q := 14) (i := 2) dX6_firstTakenBeside_13 rfl rfl rfl ?_
                refine SW.iload (q := 16) (i := 4) dX6_firstTakenBeside_14 rfl rfl ?_
                refine SW.cF (q := 19) (C_X5_beside hG.1 rfl rfl hp (by omega)) vX6_108 (by decide) rfl rfl rfl rfl (Nat.le_of_ble_eq_true rfl) dX6_firstTakenBeside_16 rfl ?_
                rw [hq, q0i]
                refine SW.istore (q := 21) (i := 5) dX6_firstTakenBeside_19 (by decide) rfl ?_
                refine SW.iload (q := 23) (i := 5) dX6_firstTakenBeside_21 rfl rfl ?_
                refine SW.bipush (q := 25) (v := (-6)) dX6_firstTakenBeside_23 (by decide) rfl ?_
                refine SW.icmp_eq (q := 28) (tgt := 91) dX6_firstTakenBeside_25 (by decide) rfl (fun c25 => absurd c25 ((nI_n6 (by omega)))) (fun _ => ?_)
                refine SW.aload_n (q := 29) (i := 0) dX6_firstTakenBeside_28 rfl rfl rfl ?_
                refine SW.getR (q := 32) (i := 2) (j := 19) fX6_29 rfl rfl dX6_firstTakenBeside_29 rfl ?_
                refine SW.iload (q := 34) (i := 5) dX6_firstTakenBeside_32 rfl rfl ?_
                refine SW.cF (q := 37) (C_X3_atn (i := 19) (j := 45) (n := 576) rfl rfl (k := q0) rfl (by omega)) vX6_74 (by decide) rfl rfl rfl rfl (Nat.le_of_ble_eq_true rfl) dX6_firstTakenBeside_34 rfl ?_
                refine SW.bipush (q := 39) (v := (-6)) dX6_firstTakenBeside_37 (by decide) rfl ?_
                refine SW.icmp_eq (q := 42) (tgt := 91) dX6_firstTakenBeside_39 (by decide) rfl (fun c39 => absurd c39 ((by rw [t1]; exact nI_n6 (by omega)))) (fun _ => ?_)
                refine SW.aload_n (q := 43) (i := 0) dX6_firstTakenBeside_42 rfl rfl rfl ?_
                refine SW.getR (q := 46) (i := 2) (j := 15) fX6_14 rfl rfl dX6_firstTakenBeside_43 rfl ?_
                refine SW.iload (q := 48) (i := 5) dX6_firstTakenBeside_46 rfl rfl ?_
                refine SW.cF (q := 51) (C_X3_atn (i := 15) (j := 41) (n := 576) rfl rfl (k := q0) rfl (by omega)) vX6_74 (by decide) rfl rfl rfl rfl (Nat.le_of_ble_eq_true rfl) dX6_firstTakenBeside_48 rfl ?_
                refine SW.aload_n (q := 52) (i := 0) dX6_firstTakenBeside_51 rfl rfl rfl ?_
                refine SW.getR (q := 55) (i := 2) (j := 21) fX6_35 rfl rfl dX6_firstTakenBeside_52 rfl ?_
                refine SW.iload_n (q := 56) (i := 2) dX6_firstTakenBeside_55 rfl rfl rfl ?_
                refine SW.cF (q := 59) (C_X3_atn (i := 21) (j := 47) (n := 576) rfl rfl (k := p) rfl (by omega)) vX6_74 (by decide) rfl rfl rfl rfl (Nat.le_of_ble_eq_true rfl) dX6_firstTakenBeside_56 rfl ?_
                refine SW.icmp_ne (q := 62) (tgt := 91) dX6_firstTakenBeside_59 (by decide) rfl (fun c59 => absurd ((by rw [t3, hm, hl])) c59) (fun _ => ?_)
                refine SW.iload_n (q := 63) (i := 3) dX6_firstTakenBeside_62 rfl rfl rfl ?_
                refine SW.bipush (q := 65) (v := (-6)) dX6_firstTakenBeside_63 (by decide) rfl ?_
                refine SW.icmp_eq (q := 68) (tgt := 88) dX6_firstTakenBeside_65 (by decide) rfl (fun c65 => absurd c65 ((nI_n6 (by omega)))) (fun _ => ?_)
                refine SW.aload_n (q := 69) (i := 0) dX6_firstTakenBeside_68 rfl rfl rfl ?_
                refine SW.getR (q := 72) (i := 2) (j := 19) fX6_29 rfl rfl dX6_firstTakenBeside_69 rfl ?_
                refine SW.iload (q := 74) (i := 5) dX6_firstTakenBeside_72 rfl rfl ?_
                refine SW.cF (q := 77) (C_X3_atn (i := 19) (j := 45) (n := 576) rfl rfl (k := q0) rfl (by omega)) vX6_74 (by decide) rfl rfl rfl rfl (Nat.le_of_ble_eq_true rfl) dX6_firstTakenBeside_74 rfl ?_
                refine SW.aload_n (q := 78) (i := 0) dX6_firstTakenBeside_77 rfl rfl rfl ?_
                refine SW.getR (q := 81) (i := 2) (j := 19) fX6_29 rfl rfl dX6_firstTakenBeside_78 rfl ?_
                refine SW.iload_n (q := 82) (i := 3) dX6_firstTakenBeside_81 rfl rfl rfl ?_
                refine SW.cF (q := 85) (C_X3_atn (i := 19) (j := 45) (n := 576) rfl rfl (k := f) rfl (by omega)) vX6_74 (by decide) rfl rfl rfl rfl (Nat.le_of_ble_eq_true rfl) dX6_firstTakenBeside_82 rfl ?_
                refine SW.icmp_ge (q := 88) (tgt := 91) dX6_firstTakenBeside_85 (by decide) rfl (fun c85 => absurd c85 ((by rw [t1, tf1]; exact nI_ge hlt (by omega)))) (fun _ => ?_)
                refine SW.iload (q := 90) (i := 5) dX6_firstTakenBeside_88 rfl rfl ?_
                refine SW.istore_n (q := 91) (i := 3) dX6_firstTakenBeside_90 rfl (by decide) rfl ?_
                refine SW.iinc (q := 94) (v := _ + 1) dX6_firstTakenBeside_91 rfl rfl (by decide) rfl ?_
                refine SW.goto (q := 6) dX6_firstTakenBeside_94 (by decide) ?_
                refine SW.eq (by rw [nI_1]; rfl) rfl rfl (ih (e + 1) (by omega) _ (some q0) (fun z => by cases z) (fun f' hf => ?_))
                cases hf
                refine ⟨q0l, ⟨e, by omega, hq⟩, ht, hl, fun e' q he' hq' ht' hl' => ?_⟩
                by_cases z : e' = e
                · subst z; rw [hq] at hq'; cases hq'; exact Nat.le_refl _
                · exact Nat.le_trans (Nat.le_of_lt hlt) (f5 e' q (by omega) hq' ht' hl')
              · refine SW.iload (q := 8) (i := 4) dX6_firstTakenBeside_6 rfl rfl ?_
                refine SW.iconst (q := 9) (v := 4) dX6_firstTakenBeside_8 (by decide) rfl ?_
                refine SW.icmp_ge (q := 12) (tgt := 97) dX6_firstTakenBeside_9 (by decide) rfl (fun c9 => absurd c9 ((nI_ge (a := e) (b := 4) (by omega) (by omega)))) (fun _ => ?_)
                refine SW.aload_n (q := 13) (i := 1) dX6_firstTakenBeside_12 rfl rfl rfl ?_
                refine SW.iload_n (q := 14) (i := 2) dX6_firstTakenBeside_13 rfl rfl rfl ?_
                refine SW.iload (q := 16) (i := 4) dX6_firstTakenBeside_14 rfl rfl ?_
                refine SW.cF (q := 19) (C_X5_beside hG.1 rfl rfl hp (by omega)) vX6_108 (by decide) rfl rfl rfl rfl (Nat.le_of_ble_eq_true rfl) dX6_firstTakenBeside_16 rfl ?_
                rw [hq, q0i]
                refine SW.istore (q := 21) (i := 5) dX6_firstTakenBeside_19 (by decide) rfl ?_
                refine SW.iload (q := 23) (i := 5) dX6_firstTakenBeside_21 rfl rfl ?_
                refine SW.bipush (q := 25) (v := (-6)) dX6_firstTakenBeside_23 (by decide) rfl ?_
                refine SW.icmp_eq (q := 28) (tgt := 91) dX6_firstTakenBeside_25 (by decide) rfl (fun c25 => absurd c25 ((nI_n6 (by omega)))) (fun _ => ?_)
                refine SW.aload_n (q := 29) (i := 0) dX6_firstTakenBeside_28 rfl rfl rfl ?_
                refine SW.getR (q := 32) (i := 2) (j := 19) fX6_29 rfl rfl dX6_firstTakenBeside_29 rfl ?_
                refine SW.iload (q := 34) (i := 5) dX6_firstTakenBeside_32 rfl rfl ?_
                refine SW.cF (q := 37) (C_X3_atn (i := 19) (j := 45) (n := 576) rfl rfl (k := q0) rfl (by omega)) vX6_74 (by decide) rfl rfl rfl rfl (Nat.le_of_ble_eq_true rfl) dX6_firstTakenBeside_34 rfl ?_
                refine SW.bipush (q := 39) (v := (-6)) dX6_firstTakenBeside_37 (by decide) rfl ?_
                refine SW.icmp_eq (q := 42) (tgt := 91) dX6_firstTakenBeside_39 (by decide) rfl (fun c39 => absurd c39 ((by rw [t1]; exact nI_n6 (by omega)))) (fun _ => ?_)
                refine SW.aload_n (q := 43) (i := 0) dX6_firstTakenBeside_42 rfl rfl rfl ?_
                refine SW.getR (q := 46) (i := 2) (j := 15) fX6_14 rfl rfl dX6_firstTakenBeside_43 rfl ?_
                refine SW.iload (q := 48) (i := 5) dX6_firstTakenBeside_46 rfl rfl ?_
                refine SW.cF (q := 51) (C_X3_atn (i := 15) (j := 41) (n := 576) rfl rfl (k := q0) rfl (by omega)) vX6_74 (by decide) rfl rfl rfl rfl (Nat.le_of_ble_eq_true rfl) dX6_firstTakenBeside_48 rfl ?_
                refine SW.aload_n (q := 52) (i := 0) dX6_firstTakenBeside_51 rfl rfl rfl ?_
                refine SW.getR (q := 55) (i := 2) (j := 21) fX6_35 rfl rfl dX6_firstTakenBeside_52 rfl ?_
                refine SW.iload_n (q := 56) (i := 2) dX6_firstTakenBeside_55 rfl rfl rfl ?_
                refine SW.cF (q := 59) (C_X3_atn (i := 21) (j := 47) (n := 576) rfl rfl (k := p) rfl (by omega)) vX6_74 (by decide) rfl rfl rfl rfl (Nat.le_of_ble_eq_true rfl) dX6_firstTakenBeside_56 rfl ?_
                refine SW.icmp_ne (q := 62) (tgt := 91) dX6_firstTakenBeside_59 (by decide) rfl (fun c59 => absurd ((by rw [t3, hm, hl])) c59) (fun _ => ?_)
                refine SW.iload_n (q := 63) (i := 3) dX6_firstTakenBeside_62 rfl rfl rfl ?_
                refine SW.bipush (q := 65) (v := (-6)) dX6_firstTakenBeside_63 (by decide) rfl ?_
                refine SW.icmp_eq (q := 68) (tgt := 88) dX6_firstTakenBeside_65 (by decide) rfl (fun c65 => absurd c65 ((nI_n6 (by omega)))) (fun _ => ?_)
                refine SW.aload_n (q := 69) (i := 0) dX6_firstTakenBeside_68 rfl rfl rfl ?_
                refine SW.getR (q := 72) (i := 2) (j := 19) fX6_29 rfl rfl dX6_firstTakenBeside_69 rfl ?_
                refine SW.iload (q := 74) (i := 5) dX6_firstTakenBeside_72 rfl rfl ?_
                refine SW.cF (q := 77) (C_X3_atn (i := 19) (j := 45) (n := 576) rfl rfl (k := q0) rfl (by omega)) vX6_74 (by decide) rfl rfl rfl rfl (Nat.le_of_ble_eq_true rfl) dX6_firstTakenBeside_74 rfl ?_
                refine SW.aload_n (q := 78) (i := 0) dX6_firstTakenBeside_77 rfl rfl rfl ?_
                refine SW.getR (q := 81) (i := 2) (j := 19) fX6_29 rfl rfl dX6_firstTakenBeside_78 rfl ?_
                refine SW.iload_n (q := 82) (i := 3) dX6_firstTakenBeside_81 rfl rfl rfl ?_
                refine SW.cF (q := 85) (C_X3_atn (i := 19) (j := 45) (n := 576) rfl rfl (k := f) rfl (by omega)) vX6_74 (by decide) rfl rfl rfl rfl (Nat.le_of_ble_eq_true rfl) dX6_firstTakenBeside_82 rfl ?_
                refine SW.icmp_ge (q := 88) (tgt := 91) dX6_firstTakenBeside_85 (by decide) rfl (fun _ => ?_) (fun c85 => absurd ((by rw [t1, tf1]; exact nI_le (by omega) (by omega))) c85)
                refine SW.iinc (q := 94) (v := _ + 1) dX6_firstTakenBeside_91 rfl rfl (by decide) rfl ?_
                refine SW.goto (q := 6) dX6_firstTakenBeside_94 (by decide) ?_
                exact SW.eq (by rw [nI_1]; rfl) rfl rfl (keep (fun q z _ => by rw [hq] at z; cases z; exact Or.inr ⟨f, rfl, by omega⟩) _)
          · refine SW.iload (q := 8) (i := 4) dX6_firstTakenBeside_6 rfl rfl ?_
            refine SW.iconst (q := 9) (v := 4) dX6_firstTakenBeside_8 (by decide) rfl ?_
            refine SW.icmp_ge (q := 12) (tgt := 97) dX6_firstTakenBeside_9 (by decide) rfl (fun c9 => absurd c9 ((nI_ge (a := e) (b := 4) (by omega) (by omega)))) (fun _ => ?_)
            refine SW.aload_n (q := 13) (i := 1) dX6_firstTakenBeside_12 rfl rfl rfl ?_
            refine SW.iload_n (q := 14) (i := 2) dX6_firstTakenBeside_13 rfl rfl rfl ?_
            refine SW.iload (q := 16) (i := 4) dX6_firstTakenBeside_14 rfl rfl ?_
            refine SW.cF (q := 19) (C_X5_beside hG.1 rfl rfl hp (by omega)) vX6_108 (by decide) rfl rfl rfl rfl (Nat.le_of_ble_eq_true rfl) dX6_firstTakenBeside_16 rfl ?_
            rw [hq, q0i]
            refine SW.istore (q := 21) (i := 5) dX6_firstTakenBeside_19 (by decide) rfl ?_
            refine SW.iload (q := 23) (i := 5) dX6_firstTakenBeside_21 rfl rfl ?_
            refine SW.bipush (q := 25) (v := (-6)) dX6_firstTakenBeside_23 (by decide) rfl ?_
            refine SW.icmp_eq (q := 28) (tgt := 91) dX6_firstTakenBeside_25 (by decide) rfl (fun c25 => absurd c25 ((nI_n6 (by omega)))) (fun _ => ?_)
            refine SW.aload_n (q := 29) (i := 0) dX6_firstTakenBeside_28 rfl rfl rfl ?_
            refine SW.getR (q := 32) (i := 2) (j := 19) fX6_29 rfl rfl dX6_firstTakenBeside_29 rfl ?_
            refine SW.iload (q := 34) (i := 5) dX6_firstTakenBeside_32 rfl rfl ?_
            refine SW.cF (q := 37) (C_X3_atn (i := 19) (j := 45) (n := 576) rfl rfl (k := q0) rfl (by omega)) vX6_74 (by decide) rfl rfl rfl rfl (Nat.le_of_ble_eq_true rfl) dX6_firstTakenBeside_34 rfl ?_
            refine SW.bipush (q := 39) (v := (-6)) dX6_firstTakenBeside_37 (by decide) rfl ?_
            refine SW.icmp_eq (q := 42) (tgt := 91) dX6_firstTakenBeside_39 (by decide) rfl (fun c39 => absurd c39 ((by rw [t1]; exact nI_n6 (by omega)))) (fun _ => ?_)
            refine SW.aload_n (q := 43) (i := 0) dX6_firstTakenBeside_42 rfl rfl rfl ?_
            refine SW.getR (q := 46) (i := 2) (j := 15) fX6_14 rfl rfl dX6_firstTakenBeside_43 rfl ?_
            refine SW.iload (q := 48) (i := 5) dX6_firstTakenBeside_46 rfl rfl ?_
            refine SW.cF (q := 51) (C_X3_atn (i := 15) (j := 41) (n := 576) rfl rfl (k := q0) rfl (by omega)) vX6_74 (by decide) rfl rfl rfl rfl (Nat.le_of_ble_eq_true rfl) dX6_firstTakenBeside_48 rfl ?_
            refine SW.aload_n (q := 52) (i := 0) dX6_firstTakenBeside_51 rfl rfl rfl ?_
            refine SW.getR (q := 55) (i := 2) (j := 21) fX6_35 rfl rfl dX6_firstTakenBeside_52 rfl ?_
            refine SW.iload_n (q := 56) (i := 2) dX6_firstTakenBeside_55 rfl rfl rfl ?_
            refine SW.cF (q := 59) (C_X3_atn (i := 21) (j := 47) (n := 576) rfl rfl (k := p) rfl (by omega)) vX6_74 (by decide) rfl rfl rfl rfl (Nat.le_of_ble_eq_true rfl) dX6_firstTakenBeside_56 rfl ?_
            refine SW.icmp_ne (q := 62) (tgt := 91) dX6_firstTakenBeside_59 (by decide) rfl (fun _ => ?_) (fun c59 => absurd c59 ((by rw [t3, hm, nI_eq (by omega) (by omega)]; exact hl)))
            refine SW.iinc (q := 94) (v := _ + 1) dX6_firstTakenBeside_91 rfl rfl (by decide) rfl ?_
            refine SW.goto (q := 6) dX6_firstTakenBeside_94 (by decide) ?_
            exact SW.eq (by rw [nI_1]; rfl) rfl rfl (keep (fun q z _ => by rw [hq] at z; cases z; exact Or.inl hl) _)
        · have t45 := r4 q0 q0l ht
          refine SW.iload (q := 8) (i := 4) dX6_firstTakenBeside_6 rfl rfl ?_
          refine SW.iconst (q := 9) (v := 4) dX6_firstTakenBeside_8 (by decide) rfl ?_
          refine SW.icmp_ge (q := 12) (tgt := 97) dX6_firstTakenBeside_9 (by decide) rfl (fun c9 => absurd c9 ((nI_ge (a := e) (b := 4) (by omega) (by omega)))) (fun _ => ?_)
          refine SW.aload_n (q := 13) (i := 1) dX6_firstTakenBeside_12 rfl rfl rfl ?_
          refine SW.iload_n (q := 14) (i := 2) dX6_firstTakenBeside_13 rfl rfl rfl ?_
          refine SW.iload (q := 16) (i := 4) dX6_firstTakenBeside_14 rfl rfl ?_
          refine SW.cF (q := 19) (C_X5_beside hG.1 rfl rfl hp (by omega)) vX6_108 (by decide) rfl rfl rfl rfl (Nat.le_of_ble_eq_true rfl) dX6_firstTakenBeside_16 rfl ?_
          rw [hq, q0i]
          refine SW.istore (q := 21) (i := 5) dX6_firstTakenBeside_19 (by decide) rfl ?_
          refine SW.iload (q := 23) (i := 5) dX6_firstTakenBeside_21 rfl rfl ?_
          refine SW.bipush (q := 25) (v := (-6)) dX6_firstTakenBeside_23 (by decide) rfl ?_
          refine SW.icmp_eq (q := 28) (tgt := 91) dX6_firstTakenBeside_25 (by decide) rfl (fun c25 => absurd c25 ((nI_n6 (by omega)))) (fun _ => ?_)
          refine SW.aload_n (q := 29) (i := 0) dX6_firstTakenBeside_28 rfl rfl rfl ?_
          refine SW.getR (q := 32) (i := 2) (j := 19) fX6_29 rfl rfl dX6_firstTakenBeside_29 rfl ?_
          refine SW.iload (q := 34) (i := 5) dX6_firstTakenBeside_32 rfl rfl ?_
          refine SW.cF (q := 37) (C_X3_atn (i := 19) (j := 45) (n := 576) rfl rfl (k := q0) rfl (by omega)) vX6_74 (by decide) rfl rfl rfl rfl (Nat.le_of_ble_eq_true rfl) dX6_firstTakenBeside_34 rfl ?_
          refine SW.bipush (q := 39) (v := (-6)) dX6_firstTakenBeside_37 (by decide) rfl ?_
          refine SW.icmp_eq (q := 42) (tgt := 91) dX6_firstTakenBeside_39 (by decide) rfl (fun _ => ?_) (fun c39 => absurd (t45) c39)
          refine SW.iinc (q := 94) (v := _ + 1) dX6_firstTakenBeside_91 rfl rfl (by decide) rfl ?_
          refine SW.goto (q := 6) dX6_firstTakenBeside_94 (by decide) ?_
          exact SW.eq (by rw [nI_1]; rfl) rfl rfl (keep (fun q z ht' => by rw [hq] at z; cases z; exact absurd ht' ht) _)
  refine SW.bipush (q := 2) (v := (-6)) dX6_firstTakenBeside_0 (by decide) rfl ?_
  refine SW.istore_n (q := 3) (i := 3) dX6_firstTakenBeside_2 rfl (by decide) rfl ?_
  refine SW.iconst (q := 4) (v := 0) dX6_firstTakenBeside_3 (by decide) rfl ?_
  refine SW.istore (q := 6) (i := 4) dX6_firstTakenBeside_4 (by decide) rfl ?_
  exact loop 4 0 rfl _ none (fun _ e' q he' => absurd he' (Nat.not_lt_zero _)) (fun f hf => by cases hf)
/-- the row of what is not yet taken may be written -/
theorem ww_R.put {i : Nat} {w : Int32} (a : ww_R n K T lv od D O σ) (hn : ¬ wt_tk T K p) (hi : i = 41 ∨ i = 42 ∨ i = 44) : ww_R n K T lv od D O (sw_up σ i p w) := by
  obtain ⟨r1, r2, r3, r4⟩ := a
  have o : ∀ j q, wt_tk T K q → sw_up σ i p w j q = σ j q := by
    intro j q ht
    by_cases z : j = i
    · subst z; exact sw_o1 (fun e => hn (by rw [← e]; exact ht))
    · rw [sw_un z]
  have o2 : ∀ j, j = 2 ∨ j = 45 ∨ j = 46 → sw_up σ i p w j = σ j := fun j hj => sw_un (by omega)
  refine ⟨by rw [o2 2 (by omega)]; exact r1, fun j hj => by rw [o2 46 (by omega)]; exact r2 j hj, fun q hq ht => ?_, fun q hq ht => by rw [o2 45 (by omega)]; exact r4 q hq ht⟩
  rw [o 45 q ht, o 41 q ht, o 42 q ht, o 44 q ht]
  exact r3 q hq ht
theorem ww_H.un {i k : Nat} {w : Int32} {S : Nat → Nat → Prop} {U : Nat → Prop} (a : ww_H n h S U lv c σ) (h6 : 6 ≠ i) (h58 : 58 ≠ i) (h47 : 47 ≠ i) : ww_H n h S U lv c (sw_up σ i k w) := a.fr (by rw [sw_un h6]) (by rw [sw_un h58]) (by rw [sw_un h47])
theorem C_X6_takeOutlets (hG : ww_G n h σ) (hx : x = nI sea) (hs : sea ≤ 255) (h28 : σ 2 8 = 0) (h45 : ∀ q, q < n * n → σ 45 q = -6) (h47 : ∀ q, q < n * n → σ 47 q = 1000000) (h61 : σ 6 1 = 0) :
    sw_Mv X 3 mX6_takeOutlets [.ref (sw_ad X 2), .ref (sw_ad X 1), .ref (sw_ad X 6), .int x] σ (fun u => fr_ [2, 6, 41, 42, 44, 45, 46, 47, 58] σ u ∧ ∃ K c T lv od D O, ww_I n h sea K c T lv od D O u ∧ c ≤ 4 * K ∧ ∀ q, q < n * n → wt_out n h sea q = true → wt_tk T K q) := by
  subst hx
  have n24 : n ≤ 24 := hG.1.2.1
  have h576 := gr_576 n24
  refine sw_ME.ofF (by decide +kernel) rfl (Nat.le_of_ble_eq_true rfl) rfl ?_
  have loop : ∀ (k p : Nat), p + k = n * n → ∀ (B : Value) (τ : sw_Sg) (K c : Nat) (T lv od : Nat → Nat) (D : Nat → Option Nat) (O : Nat → Nat), fr_ [2, 6, 41, 42, 44, 45, 46, 47, 58] σ τ → ww_I n h sea K c T lv od D O τ → c ≤ 4 * K → (∀ q, q < n * n → (wt_tk T K q ↔ (wt_out n h sea q = true ∧ q < p))) →
      SW X 3 mX6_takeOutlets sw_E0 (sw_Rv (fun u => fr_ [2, 6, 41, 42, 44, 45, 46, 47, 58] σ u ∧ ∃ K c T lv od D O, ww_I n h sea K c T lv od D O u ∧ c ≤ 4 * K ∧ ∀ q, q < n * n → wt_out n h sea q = true → wt_tk T K q)) 3 [.ref (sw_ad X 2), .ref (sw_ad X 1), .ref (sw_ad X 6), .int (nI sea), .int (nI p), B] [] τ := by
    intro k
    induction k with
    | zero =>
      intro p hpk B τ K c T lv od D O hf hI hc ht
      obtain rfl : p = n * n := by omega
      refine SW.iload (q := 5) (i := 4) dX6_takeOutlets_3 rfl rfl ?_
      refine SW.aload_n (q := 6) (i := 1) dX6_takeOutlets_5 rfl rfl rfl ?_
      refine SW.getI (q := 9) (i := 1) fX6_66 rfl rfl dX6_takeOutlets_6 rfl ?_
      refine SW.icmp_ge (q := 12) (tgt := 95) dX6_takeOutlets_9 (by decide) rfl (fun _ => ?_) (fun c9 => absurd ((by rw [hI.1.1.2.2.2.1]; exact Int32.le_refl _)) c9)
      refine SW.vretR rfl dX6_takeOutlets_95 ?_
      exact ⟨hf, K, c, T, lv, od, D, O, hI, hc, fun q hq ho => (ht q hq).mpr ⟨ho, hq⟩⟩
    | succ k ih =>
      intro p hpk B τ K c T lv od D O hf hI hc ht
      have hp : p < n * n := by omega
      obtain ⟨hG1, hok, hR1, hH1, hO1⟩ := hI
      have hpl : τ 1 2 = nI (n * n) := hG1.1.2.2.2.1
      obtain ⟨eh, h400⟩ := hG1.2 p hp
      have hnt : ¬ wt_tk T K p := fun z => absurd ((ht p hp).mp z).2 (Nat.lt_irrefl _)
      have hKP := wt_K hok hp hnt
      have step : wt_out n h sea p = true → ∀ (B : Value) (l : Nat), l = (if h p < sea then sea else h p) → ∀ (τ2 u : sw_Sg), τ2 = sw_up (sw_up (sw_up τ 41 p (nI l)) 42 p (-6)) 44 p (nI p) → (fr_ [2, 6, 45, 46, 47, 58] τ2 u ∧ ww_R n (K + 1) (va_up T K p) (va_up lv p l) (va_up od p K) (va_up D p none) (va_up O p p) u ∧
          ∃ c', c' ≤ c + 4 ∧ ww_H n h (fun _ r => wt_tk (va_up T K p) (K + 1) r) (fun q => ¬ wt_tk (va_up T K p) (K + 1) q) (va_up lv p l) c' u) →
          SW X 3 mX6_takeOutlets sw_E0 (sw_Rv (fun u => fr_ [2, 6, 41, 42, 44, 45, 46, 47, 58] σ u ∧ ∃ K c T lv od D O, ww_I n h sea K c T lv od D O u ∧ c ≤ 4 * K ∧ ∀ q, q < n * n → wt_out n h sea q = true → wt_tk T K q)) 3 [.ref (sw_ad X 2), .ref (sw_ad X 1), .ref (sw_ad X 6), .int (nI sea), .int (nI (p + 1)), B] [] u := by
        rintro ho B l hl τ2 u rfl ⟨s1, s2, c', s3, s4⟩
        have f2 : fr_ [2, 6, 41, 42, 44, 45, 46, 47, 58] σ u := fr_tr (fr_up (fr_up (fr_up hf (by decide)) (by decide)) (by decide)) s1 (by decide)
        refine ih (p + 1) (by omega) B u (K + 1) c' _ _ _ _ _ f2 ⟨hG.fr f2 (by decide) (by decide) (by decide) (by decide), wt_snoc hok hp hnt (Or.inl ⟨ho, fun q q1 q2 q3 => (ht q q1).mpr ⟨q2, q3⟩, hl, rfl⟩), s2, s4, wo_snoc hO1 hp hnt hp (fun q r _ a b => (wt_D hok a b).1) (Or.inl ⟨rfl, rfl⟩)⟩ (by omega) (fun q hq => ?_)
        rw [wt_tk_snoc, ht q hq]
        constructor
        · rintro (a | rfl)
          · exact ⟨a.1, by omega⟩
          · exact ⟨ho, by omega⟩
        · rintro ⟨a, b⟩
          by_cases z : q = p
          · exact Or.inr z
          · exact Or.inl ⟨a, by omega⟩
      have take : ∀ l, l ≤ 400 → ∀ τ2, τ2 = sw_up (sw_up (sw_up τ 41 p (nI l)) 42 p (-6)) 44 p (nI p) → sw_Mv X 2 mX6_take [.ref (sw_ad X 2), .ref (sw_ad X 1), .ref (sw_ad X 6), .int (nI p)] τ2 (fun u => fr_ [2, 6, 45, 46, 47, 58] τ2 u ∧ ww_R n (K + 1) (va_up T K p) (va_up lv p l) (va_up od p K) (va_up D p none) (va_up O p p) u ∧
          ∃ c', c' ≤ c + 4 ∧ ww_H n h (fun _ r => wt_tk (va_up T K p) (K + 1) r) (fun q => ¬ wt_tk (va_up T K p) (K + 1) q) (va_up lv p l) c' u) := by
        rintro l hl τ2 rfl
        refine C_X6_take (h := h) (r := none) (o := p) (c := c) ?_ (((hR1.put hnt (by omega)).put hnt (by omega)).put hnt (by omega)) rfl hp hnt (by omega) ?_ hl ?_ ?_ ((((hH1.sub (fun q hu => hu.1)).un (by decide) (by decide) (by decide)).un (by decide) (by decide) (by decide)).un (by decide) (by decide) (by decide)) (by omega)
        · exact hG1.fr (l := [41, 42, 44]) (fr_up (fr_up (fr_up fr_rf (by decide)) (by decide)) (by decide)) (by decide) (by decide) (by decide) (by decide)
        · rw [sw_un (by decide), sw_un (by decide), sw_i1]
        · rw [sw_un (by decide), sw_i1]; rfl
        · rw [sw_i1]
      have hout : wt_out n h sea p = (decide (h p < sea) || gr_rim n p) := rfl
      have skip : wt_out n h sea p = false → ∀ B, SW X 3 mX6_takeOutlets sw_E0 (sw_Rv (fun u => fr_ [2, 6, 41, 42, 44, 45, 46, 47, 58] σ u ∧ ∃ K c T lv od D O, ww_I n h sea K c T lv od D O u ∧ c ≤ 4 * K ∧ ∀ q, q < n * n → wt_out n h sea q = true → wt_tk T K q)) 3 [.ref (sw_ad X 2), .ref (sw_ad X 1), .ref (sw_ad X 6), .int (nI sea), .int (nI (p + 1)), B] [] τ := by
        intro ho B
        refine ih (p + 1) (by omega) B τ K c T lv od D O hf ⟨hG1, hok, hR1, hH1, hO1⟩ hc (fun q hq => ?_)
        rw [ht q hq]
        constructor
        · rintro ⟨a, b⟩; exact ⟨a, by omega⟩
        · rintro ⟨a, b⟩
          refine ⟨a, ?_⟩
          by_cases z : q = p
          · subst z; rw [ho] at a; cases a
          · omega
      by_cases hlt : h p < sea
      · refine SW.iload (q := 5) (i := 4) dX6_takeOutlets_3 rfl rfl ?_
        refine SW.aload_n (q := 6) (i := 1) dX6_takeOutlets_5 rfl rfl rfl ?_
        refine SW.getI (q := 9) (i := 1) fX6_66 rfl rfl dX6_takeOutlets_6 rfl ?_
        refine SW.icmp_ge (q := 12) (tgt := 95) dX6_takeOutlets_9 (by decide) rfl (fun c9 => absurd c9 ((by rw [hpl]; exact nI_ge (by omega) (by omega)))) (fun _ => ?_)
        refine SW.aload_n (q := 13) (i := 1) dX6_takeOutlets_12 rfl rfl rfl ?_
        refine SW.getR (q := 16) (i := 1) (j := 14) fX6_71 rfl rfl dX6_takeOutlets_13 rfl ?_
        refine SW.iload (q := 18) (i := 4) dX6_takeOutlets_16 rfl rfl ?_
        refine SW.cF (q := 21) (C_X3_atn (i := 14) (j := 40) (n := 576) rfl rfl (k := p) rfl (by omega)) vX6_74 (by decide) rfl rfl rfl rfl (Nat.le_of_ble_eq_true rfl) dX6_takeOutlets_18 rfl ?_
        rw [eh]
        refine SW.istore (q := 23) (i := 5) dX6_takeOutlets_21 (by decide) rfl ?_
        refine SW.iload (q := 25) (i := 5) dX6_takeOutlets_23 rfl rfl ?_
        refine SW.iload_n (q := 26) (i := 3) dX6_takeOutlets_25 rfl rfl rfl ?_
        refine SW.icmp_lt (q := 29) (tgt := 38) dX6_takeOutlets_26 (by decide) rfl (fun _ => ?_) (fun c26 => absurd ((nI_lt hlt (by omega))) c26)
        refine SW.aload_n (q := 39) (i := 0) dX6_takeOutlets_38 rfl rfl rfl ?_
        refine SW.getR (q := 42) (i := 2) (j := 15) fX6_14 rfl rfl dX6_takeOutlets_39 rfl ?_
        refine SW.iload (q := 44) (i := 4) dX6_takeOutlets_42 rfl rfl ?_
        refine SW.iload (q := 46) (i := 5) dX6_takeOutlets_44 rfl rfl ?_
        refine SW.iload_n (q := 47) (i := 3) dX6_takeOutlets_46 rfl rfl rfl ?_
        refine SW.icmp_ge (q := 50) (tgt := 54) dX6_takeOutlets_47 (by decide) rfl (fun c47 => absurd c47 ((nI_ge hlt (by omega)))) (fun _ => ?_)
        refine SW.iload_n (q := 51) (i := 3) dX6_takeOutlets_50 rfl rfl rfl ?_
        refine SW.goto (q := 56) dX6_takeOutlets_51 (by decide) ?_
        refine SW.cG (q := 59) (C_X3_putn (i := 15) (j := 41) (n := 576) rfl rfl (k := p) rfl (by omega)) vX6_82 (by decide) rfl rfl rfl rfl (Nat.le_of_ble_eq_true rfl) dX6_takeOutlets_56 rfl ?_
        refine SW.aload_n (q := 60) (i := 0) dX6_takeOutlets_59 rfl rfl rfl ?_
        refine SW.getR (q := 63) (i := 2) (j := 16) fX6_20 rfl rfl dX6_takeOutlets_60 rfl ?_
        refine SW.iload (q := 65) (i := 4) dX6_takeOutlets_63 rfl rfl ?_
        refine SW.bipush (q := 67) (v := (-6)) dX6_takeOutlets_65 (by decide) rfl ?_
        refine SW.cG (q := 70) (C_X3_putn (i := 16) (j := 42) (n := 576) rfl rfl (k := p) rfl (by omega)) vX6_82 (by decide) rfl rfl rfl rfl (Nat.le_of_ble_eq_true rfl) dX6_takeOutlets_67 rfl ?_
        refine SW.aload_n (q := 71) (i := 0) dX6_takeOutlets_70 rfl rfl rfl ?_
        refine SW.getR (q := 74) (i := 2) (j := 18) fX6_26 rfl rfl dX6_takeOutlets_71 rfl ?_
        refine SW.iload (q := 76) (i := 4) dX6_takeOutlets_74 rfl rfl ?_
        refine SW.iload (q := 78) (i := 4) dX6_takeOutlets_76 rfl rfl ?_
        refine SW.cG (q := 81) (C_X3_putn (i := 18) (j := 44) (n := 576) rfl rfl (k := p) rfl (by omega)) vX6_82 (by decide) rfl rfl rfl rfl (Nat.le_of_ble_eq_true rfl) dX6_takeOutlets_78 rfl ?_
        refine SW.aload_n (q := 82) (i := 0) dX6_takeOutlets_81 rfl rfl rfl ?_
        refine SW.aload_n (q := 83) (i := 1) dX6_takeOutlets_82 rfl rfl rfl ?_
        refine SW.aload_n (q := 84) (i := 2) dX6_takeOutlets_83 rfl rfl rfl ?_
        refine SW.iload (q := 86) (i := 4) dX6_takeOutlets_84 rfl rfl ?_
        refine SW.cV (q := 89) (take sea (by omega) _ rfl) vX6_90 (by decide) rfl rfl rfl rfl (Nat.le_of_ble_eq_true rfl) dX6_takeOutlets_86 rfl (fun u86 r86 => ?_)
        refine SW.iinc (q := 92) (v := _ + 1) dX6_takeOutlets_89 rfl rfl (by decide) rfl ?_
        refine SW.goto (q := 3) dX6_takeOutlets_92 (by decide) ?_
        exact SW.eq (by rw [nI_1]; rfl) rfl rfl (step (by rw [hout]; simp [hlt]) _ sea (by rw [if_pos hlt]) _ _ rfl r86)
      · cases hrim : gr_rim n p with
        | true =>
          refine SW.iload (q := 5) (i := 4) dX6_takeOutlets_3 rfl rfl ?_
          refine SW.aload_n (q := 6) (i := 1) dX6_takeOutlets_5 rfl rfl rfl ?_
          refine SW.getI (q := 9) (i := 1) fX6_66 rfl rfl dX6_takeOutlets_6 rfl ?_
          refine SW.icmp_ge (q := 12) (tgt := 95) dX6_takeOutlets_9 (by decide) rfl (fun c9 => absurd c9 ((by rw [hpl]; exact nI_ge (by omega) (by omega)))) (fun _ => ?_)
          refine SW.aload_n (q := 13) (i := 1) dX6_takeOutlets_12 rfl rfl rfl ?_
          refine SW.getR (q := 16) (i := 1) (j := 14) fX6_71 rfl rfl dX6_takeOutlets_13 rfl ?_
          refine SW.iload (q := 18) (i := 4) dX6_takeOutlets_16 rfl rfl ?_
          refine SW.cF (q := 21) (C_X3_atn (i := 14) (j := 40) (n := 576) rfl rfl (k := p) rfl (by omega)) vX6_74 (by decide) rfl rfl rfl rfl (Nat.le_of_ble_eq_true rfl) dX6_takeOutlets_18 rfl ?_
          rw [eh]
          refine SW.istore (q := 23) (i := 5) dX6_takeOutlets_21 (by decide) rfl ?_
          refine SW.iload (q := 25) (i := 5) dX6_takeOutlets_23 rfl rfl ?_
          refine SW.iload_n (q := 26) (i := 3) dX6_takeOutlets_25 rfl rfl rfl ?_
          refine SW.icmp_lt (q := 29) (tgt := 38) dX6_takeOutlets_26 (by decide) rfl (fun c26 => absurd c26 ((nI_nlt (by omega) (by omega)))) (fun _ => ?_)
          refine SW.aload_n (q := 30) (i := 1) dX6_takeOutlets_29 rfl rfl rfl ?_
          refine SW.iload (q := 32) (i := 4) dX6_takeOutlets_30 rfl rfl ?_
          refine SW.cF (q := 35) (C_X5_isRim hG1.1 rfl hp) vX6_86 (by decide) rfl rfl rfl rfl (Nat.le_of_ble_eq_true rfl) dX6_takeOutlets_32 rfl ?_
          rw [hrim]
          refine SW.if_eq (q := 38) (tgt := 89) dX6_takeOutlets_35 (by decide) rfl (fun c35 => absurd c35 ((by decide))) (fun _ => ?_)
          refine SW.aload_n (q := 39) (i := 0) dX6_takeOutlets_38 rfl rfl rfl ?_
          refine SW.getR (q := 42) (i := 2) (j := 15) fX6_14 rfl rfl dX6_takeOutlets_39 rfl ?_
          refine SW.iload (q := 44) (i := 4) dX6_takeOutlets_42 rfl rfl ?_
          refine SW.iload (q := 46) (i := 5) dX6_takeOutlets_44 rfl rfl ?_
          refine SW.iload_n (q := 47) (i := 3) dX6_takeOutlets_46 rfl rfl rfl ?_
          refine SW.icmp_ge (q := 50) (tgt := 54) dX6_takeOutlets_47 (by decide) rfl (fun _ => ?_) (fun c47 => absurd ((nI_le (by omega) (by omega))) c47)
          refine SW.iload (q := 56) (i := 5) dX6_takeOutlets_54 rfl rfl ?_
          refine SW.cG (q := 59) (C_X3_putn (i := 15) (j := 41) (n := 576) rfl rfl (k := p) rfl (by omega)) vX6_82 (by decide) rfl rfl rfl rfl (Nat.le_of_ble_eq_true rfl) dX6_takeOutlets_56 rfl ?_
          refine SW.aload_n (q := 60) (i := 0) dX6_takeOutlets_59 rfl rfl rfl ?_
          refine SW.getR (q := 63) (i := 2) (j := 16) fX6_20 rfl rfl dX6_takeOutlets_60 rfl ?_
          refine SW.iload (q := 65) (i := 4) dX6_takeOutlets_63 rfl rfl ?_
          refine SW.bipush (q := 67) (v := (-6)) dX6_takeOutlets_65 (by decide) rfl ?_
          refine SW.cG (q := 70) (C_X3_putn (i := 16) (j := 42) (n := 576) rfl rfl (k := p) rfl (by omega)) vX6_82 (by decide) rfl rfl rfl rfl (Nat.le_of_ble_eq_true rfl) dX6_takeOutlets_67 rfl ?_
          refine SW.aload_n (q := 71) (i := 0) dX6_takeOutlets_70 rfl rfl rfl ?_
          refine SW.getR (q := 74) (i := 2) (j := 18) fX6_26 rfl rfl dX6_takeOutlets_71 rfl ?_
          refine SW.iload (q := 76) (i := 4) dX6_takeOutlets_74 rfl rfl ?_
          refine SW.iload (q := 78) (i := 4) dX6_takeOutlets_76 rfl rfl ?_
          refine SW.cG (q := 81) (C_X3_putn (i := 18) (j := 44) (n := 576) rfl rfl (k := p) rfl (by omega)) vX6_82 (by decide) rfl rfl rfl rfl (Nat.le_of_ble_eq_true rfl) dX6_takeOutlets_78 rfl ?_
          refine SW.aload_n (q := 82) (i := 0) dX6_takeOutlets_81 rfl rfl rfl ?_
          refine SW.aload_n (q := 83) (i := 1) dX6_takeOutlets_82 rfl rfl rfl ?_
          refine SW.aload_n (q := 84) (i := 2) dX6_takeOutlets_83 rfl rfl rfl ?_
          refine SW.iload (q := 86) (i := 4) dX6_takeOutlets_84 rfl rfl ?_
          refine SW.cV (q := 89) (take (h p) (by omega) _ rfl) vX6_90 (by decide) rfl rfl rfl rfl (Nat.le_of_ble_eq_true rfl) dX6_takeOutlets_86 rfl (fun u86 r86 => ?_)
          refine SW.iinc (q := 92) (v := _ + 1) dX6_takeOutlets_89 rfl rfl (by decide) rfl ?_
          refine SW.goto (q := 3) dX6_takeOutlets_92 (by decide) ?_
          exact SW.eq (by rw [nI_1]; rfl) rfl rfl (step (by rw [hout, hrim]; simp) _ (h p) (by rw [if_neg hlt]) _ _ rfl r86)
        | false =>
          refine SW.iload (q := 5) (i := 4) dX6_takeOutlets_3 rfl rfl ?_
          refine SW.aload_n (q := 6) (i := 1) dX6_takeOutlets_5 rfl rfl rfl ?_
          refine SW.getI (q := 9) (i := 1) fX6_66 rfl rfl dX6_takeOutlets_6 rfl ?_
          refine SW.icmp_ge (q := 12) (tgt := 95) dX6_takeOutlets_9 (by decide) rfl (fun c9 => absurd c9 ((by rw [hpl]; exact nI_ge (by omega) (by omega)))) (fun _ => ?_)
          refine SW.aload_n (q := 13) (i := 1) dX6_takeOutlets_12 rfl rfl rfl ?_
          refine SW.getR (q := 16) (i := 1) (j := 14) fX6_71 rfl rfl dX6_takeOutlets_13 rfl ?_
          refine SW.iload (q := 18) (i := 4) dX6_takeOutlets_16 rfl rfl ?_
          refine SW.cF (q := 21) (C_X3_atn (i := 14) (j := 40) (n := 576) rfl rfl (k := p) rfl (by omega)) vX6_74 (by decide) rfl rfl rfl rfl (Nat.le_of_ble_eq_true rfl) dX6_takeOutlets_18 rfl ?_
          rw [eh]
          refine SW.istore (q := 23) (i := 5) dX6_takeOutlets_21 (by decide) rfl ?_
          refine SW.iload (q := 25) (i := 5) dX6_takeOutlets_23 rfl rfl ?_
          refine SW.iload_n (q := 26) (i := 3) dX6_takeOutlets_25 rfl rfl rfl ?_
          refine SW.icmp_lt (q := 29) (tgt := 38) dX6_takeOutlets_26 (by decide) rfl (fun c26 => absurd c26 ((nI_nlt (by omega) (by omega)))) (fun _ => ?_)
          refine SW.aload_n (q := 30) (i := 1) dX6_takeOutlets_29 rfl rfl rfl ?_
          refine SW.iload (q := 32) (i := 4) dX6_takeOutlets_30 rfl rfl ?_
          refine SW.cF (q := 35) (C_X5_isRim hG1.1 rfl hp) vX6_86 (by decide) rfl rfl rfl rfl (Nat.le_of_ble_eq_true rfl) dX6_takeOutlets_32 rfl ?_
          rw [hrim]
          refine SW.if_eq (q := 38) (tgt := 89) dX6_takeOutlets_35 (by decide) rfl (fun _ => ?_) (fun c35 => absurd ((by decide)) c35)
          refine SW.iinc (q := 92) (v := _ + 1) dX6_takeOutlets_89 rfl rfl (by decide) rfl ?_
          refine SW.goto (q := 3) dX6_takeOutlets_92 (by decide) ?_
          exact SW.eq (by rw [nI_1]; rfl) rfl rfl (skip (by rw [hout, hrim]; simp [hlt]) _)
  refine SW.iconst (q := 1) (v := 0) dX6_takeOutlets_0 (by decide) rfl ?_
  refine SW.istore (q := 3) (i := 4) dX6_takeOutlets_1 (by decide) rfl ?_
  refine loop (n * n) 0 (by omega) _ σ 0 0 (fun _ => 0) (fun _ => 0) (fun _ => 0) (fun _ => none) (fun _ => 0) fr_rf ⟨hG, ⟨fun j hj => absurd hj (Nat.not_lt_zero _), fun j hj => absurd hj (Nat.not_lt_zero _)⟩, ⟨h28, fun j hj => absurd hj (Nat.not_lt_zero _), fun q hq ⟨i, i1, _⟩ => absurd i1 (Nat.not_lt_zero _), fun q hq _ => h45 q hq⟩, ⟨h61, fun i _ hi => absurd hi (Nat.not_lt_zero _), fun q hq _ => ⟨fun m ⟨⟨r, _, ⟨i, i1, _⟩, _⟩, _⟩ => absurd i1 (Nat.not_lt_zero _), fun _ => h47 q hq⟩, fun z ⟨i, i1, _⟩ => absurd i1 (Nat.not_lt_zero _)⟩, fun q hq ⟨i, i1, _⟩ => absurd i1 (Nat.not_lt_zero _)⟩ (Nat.le_refl _) (fun q hq => ⟨fun ⟨i, i1, _⟩ => absurd i1 (Nat.not_lt_zero _), fun z => absurd z.2 (Nat.not_lt_zero _)⟩)
end WRUN
