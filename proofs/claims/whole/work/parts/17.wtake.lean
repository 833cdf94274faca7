/-! WATER in the class: a place is taken -/
def ww_G (n : Nat) (h : Nat → Nat) (τ : sw_Sg) : Prop := gr_T τ n ∧ ∀ p, p < n * n → τ 40 p = nI (h p) ∧ h p ≤ 400
def ww_R (n K : Nat) (T lv od : Nat → Nat) (D : Nat → Option Nat) (O : Nat → Nat) (τ : sw_Sg) : Prop :=
  τ 2 8 = nI K ∧ (∀ j, j < K → τ 46 j = nI (T j)) ∧ (∀ q, q < n * n → wt_tk T K q → τ 45 q = nI (od q) ∧ od q < 576 ∧ τ 41 q = nI (lv q) ∧ lv q ≤ 400 ∧ τ 42 q = gr_v (D q) ∧ τ 44 q = nI (O q)) ∧ (∀ q, q < n * n → ¬ wt_tk T K q → τ 45 q = -6)
theorem ww_G.fr {l : List Nat} {σ u : sw_Sg} {n : Nat} {h : Nat → Nat} (a : ww_G n h σ) (hf : fr_ l σ u) (h1 : 1 ∉ l) (h2 : 37 ∉ l) (h3 : 38 ∉ l) (h4 : 40 ∉ l) : ww_G n h u :=
  ⟨a.1.fr hf h1 h2 h3, fun p hp => by rw [hf 40 h4]; exact a.2 p hp⟩
theorem wt_tk_snoc {T : Nat → Nat} {K p q : Nat} : wt_tk (va_up T K p) (K + 1) q ↔ wt_tk T K q ∨ q = p := by
  constructor
  · rintro ⟨i, i1, i2⟩
    by_cases e : i = K
    · subst e; right; rw [← i2]; simp [va_up]
    · left; exact ⟨i, by omega, by rw [← i2]; simp [va_up, e]⟩
  · rintro (⟨i, i1, i2⟩ | rfl)
    · exact ⟨i, by omega, by rw [← i2]; simp [va_up, show i ≠ K by omega]⟩
    · exact ⟨K, by omega, by simp [va_up]⟩
theorem up_i {α : Type} {f : Nat → α} {k : Nat} {v : α} : va_up f k v k = v := by simp [va_up]
theorem up_o {α : Type} {f : Nat → α} {k j : Nat} {v : α} (h : j ≠ k) : va_up f k v j = f j := by simp [va_up, h]
theorem ww_H.sub {n : Nat} {h : Nat → Nat} {S : Nat → Nat → Prop} {U U' : Nat → Prop} {lv : Nat → Nat} {c : Nat} {τ : sw_Sg} (a : ww_H n h S U lv c τ) (hU : ∀ q, U' q → U q) : ww_H n h S U' lv c τ := by
  obtain ⟨a1, a2, a3, a4⟩ := a
  refine ⟨a1, a2, fun q hq hu => a3 q hq (hU q hu), fun z hz => ?_⟩
  obtain ⟨r, q, h1, h2, h3, h4⟩ := a4 z hz
  exact ⟨r, q, h1, h2, h3, fun hu => h4 (hU q hu)⟩
theorem sw_max_N {a b : Nat} (ha : a < 2 ^ 31) (hb : b < 2 ^ 31) : sw_max (nI a) (nI b) = nI (wt_mx a b) := by
  unfold sw_max wt_mx
  by_cases h : a < b
  · rw [if_pos h, if_pos (nI_lt h hb)]
  · rw [if_neg h, if_neg (nI_nlt (by omega) ha)]
theorem nI_n6 {k : Nat} (h : k < 2 ^ 31) : ¬ nI k = -6 := fun e => absurd (nI_pos' h) (by rw [e]; decide)
section WTAKE
variable {X : sw_X} {σ : sw_Sg} {x y v : Int32} {n p q K c l o : Nat} {h T lv od O : Nat → Nat} {D : Nat → Option Nat} {r : Option Nat}
theorem C_X6_take (hG : ww_G n h σ) (hR : ww_R n K T lv od D O σ) (hx : x = nI p) (hp : p < n * n) (hn : ¬ wt_tk T K p) (hK : K < 576) (e1 : σ 41 p = nI l) (l4 : l ≤ 400) (e2 : σ 42 p = gr_v r) (e3 : σ 44 p = nI o)
    (hH : ww_H n h (fun _ r => wt_tk T K r) (fun q => ¬ wt_tk T K q ∧ q ≠ p) lv c σ) (hc : c + 4 ≤ 2308) :
    sw_Mv X 2 mX6_take [.ref (sw_ad X 2), .ref (sw_ad X 1), .ref (sw_ad X 6), .int x] σ (fun u => fr_ [2, 6, 45, 46, 47, 58] σ u ∧ ww_R n (K + 1) (va_up T K p) (va_up lv p l) (va_up od p K) (va_up D p r) (va_up O p o) u ∧
      ∃ c', c' ≤ c + 4 ∧ ww_H n h (fun _ r => wt_tk (va_up T K p) (K + 1) r) (fun q => ¬ wt_tk (va_up T K p) (K + 1) q) (va_up lv p l) c' u) := by
  subst hx
  have n24 : n ≤ 24 := hG.1.2.1
  have h576 := gr_576 n24
  obtain ⟨r1, r2, r3, r4⟩ := hR
  refine sw_ME.ofF (by decide +kernel) rfl (Nat.le_of_ble_eq_true rfl) rfl ?_
  have lv4 : ∀ q r, q < n * n → wl_adj n q r → (wt_tk T K r ∨ r = p) → va_up lv p l r ≤ 400 := by
    rintro q r hq ⟨e, e4, ea⟩ hr
    have hrl := (gr_nb_lt hq ea).1
    by_cases z : r = p
    · subst z; rw [up_i]; exact l4
    · rw [up_o z]
      exact (r3 r hrl (hr.resolve_right z)).2.2.2.1
  have loop : ∀ (m e : Nat), e + m = 4 → ∀ (B : Value) (ce : Nat) (σ1 τ : sw_Sg), fr_ [2, 45, 46] σ σ1 → ww_R n (K + 1) (va_up T K p) (va_up lv p l) (va_up od p K) (va_up D p r) (va_up O p o) σ1 → fr_ [6, 47, 58] σ1 τ → ce ≤ c + e →
      ww_H n h (fun q r => wt_tk T K r ∨ (r = p ∧ ∃ e', e' < e ∧ gr_nb n p e' = some q)) (fun q => ¬ wt_tk (va_up T K p) (K + 1) q) (va_up lv p l) ce τ →
      SW X 2 mX6_take sw_E0 (sw_Rv (fun u => fr_ [2, 6, 45, 46, 47, 58] σ u ∧ ww_R n (K + 1) (va_up T K p) (va_up lv p l) (va_up od p K) (va_up D p r) (va_up O p o) u ∧
      ∃ c', c' ≤ c + 4 ∧ ww_H n h (fun _ r => wt_tk (va_up T K p) (K + 1) r) (fun q => ¬ wt_tk (va_up T K p) (K + 1) q) (va_up lv p l) c' u)) 37 [.ref (sw_ad X 2), .ref (sw_ad X 1), .ref (sw_ad X 6), .int (nI p), .int (nI e), B] [] τ := by
    intro m
    induction m with
    | zero =>
      intro e he B ce σ1 τ f1 hR1 f2 hce hH1
      obtain rfl : e = 4 := by omega
      refine SW.iload (q := 39) (i := 4) dX6_take_37 rfl rfl ?_
      refine SW.iconst (q := 40) (v := 4) dX6_take_39 (by decide) rfl ?_
      refine SW.icmp_ge (q := 43) (tgt := 142) dX6_take_40 (by decide) rfl (fun _ => ?_) (fun c40 => absurd ((by decide)) c40)
      refine SW.vretR rfl dX6_take_142 ?_
      refine ⟨fr_tr (fr_sub f1 (by decide)) f2 (by decide), ?_, ce, hce, hH1.congr (fun q hq hu r ha => ?_) (fun _ _ _ _ _ _ => rfl)⟩
      · obtain ⟨q1, q2, q3, q4⟩ := hR1
        refine ⟨by rw [f2 2 (by decide)]; exact q1, fun j hj => by rw [f2 46 (by decide)]; exact q2 j hj, fun q hq ht => ?_, fun q hq ht => by rw [f2 45 (by decide)]; exact q4 q hq ht⟩
        rw [f2 45 (by decide), f2 41 (by decide), f2 42 (by decide), f2 44 (by decide)]
        exact q3 q hq ht
      · rw [wt_tk_snoc]
        constructor
        · rintro (a | ⟨a, -⟩)
          · exact Or.inl a
          · exact Or.inr a
        · rintro (a | rfl)
          · exact Or.inl a
          · obtain ⟨e', e1, e2⟩ := wl_adj_sym hq ha
            exact Or.inr ⟨rfl, e', e1, e2⟩
    | succ m ih =>
      intro e he B ce σ1 τ f1 hR1 f2 hce hH1
      have f3 : fr_ [2, 6, 45, 46, 47, 58] σ τ := fr_tr (fr_sub f1 (by decide)) f2 (by decide)
      have hG3 := hG.fr f3 (by decide) (by decide) (by decide) (by decide)
      have same : (∀ q0, gr_nb n p e = some q0 → wt_tk (va_up T K p) (K + 1) q0) → ww_H n h (fun q r => wt_tk T K r ∨ (r = p ∧ ∃ e', e' < e + 1 ∧ gr_nb n p e' = some q)) (fun q => ¬ wt_tk (va_up T K p) (K + 1) q) (va_up lv p l) ce τ := by
        intro hq0
        refine hH1.congr (fun q hq hu r ha => ?_) (fun _ _ _ _ _ _ => rfl)
        constructor
        · rintro (a | ⟨a, e', b1, b2⟩)
          · exact Or.inl a
          · exact Or.inr ⟨a, e', by omega, b2⟩
        · rintro (a | ⟨a, e', b1, b2⟩)
          · exact Or.inl a
          · by_cases z : e' = e
            · subst z; exact absurd (hq0 q b2) hu
            · exact Or.inr ⟨a, e', by omega, b2⟩
      cases hq : gr_nb n p e with
      | none =>
        refine SW.iload (q := 39) (i := 4) dX6_take_37 rfl rfl ?_
        refine SW.iconst (q := 40) (v := 4) dX6_take_39 (by decide) rfl ?_
        refine SW.icmp_ge (q := 43) (tgt := 142) dX6_take_40 (by decide) rfl (fun c40 => absurd c40 ((nI_ge (a := e) (b := 4) (by omega) (by omega)))) (fun _ => ?_)
        refine SW.aload_n (q := 44) (i := 1) dX6_take_43 rfl rfl rfl ?_
        refine SW.iload_n (q := 45) (i := 3) dX6_take_44 rfl rfl rfl ?_
        refine SW.iload (q := 47) (i := 4) dX6_take_45 rfl rfl ?_
        refine SW.cF (q := 50) (C_X5_beside hG3.1 rfl rfl hp (by omega)) vX6_108 (by decide) rfl rfl rfl rfl (Nat.le_of_ble_eq_true rfl) dX6_take_47 rfl ?_
        rw [hq]
        refine SW.istore (q := 52) (i := 5) dX6_take_50 (by decide) rfl ?_
        refine SW.iload (q := 54) (i := 5) dX6_take_52 rfl rfl ?_
        refine SW.bipush (q := 56) (v := (-6)) dX6_take_54 (by decide) rfl ?_
        refine SW.icmp_eq (q := 59) (tgt := 136) dX6_take_56 (by decide) rfl (fun _ => ?_) (fun c56 => absurd (rfl) c56)
        refine SW.iinc (q := 139) (v := _ + 1) dX6_take_136 rfl rfl (by decide) rfl ?_
        refine SW.goto (q := 37) dX6_take_139 (by decide) ?_
        exact SW.eq (by rw [nI_1]; rfl) rfl rfl (ih (e + 1) (by omega) _ ce σ1 τ f1 hR1 f2 (by omega) (same (fun q0 z => by rw [hq] at z; cases z)))
      | some q0 =>
        obtain ⟨q0l, q0n, -⟩ := gr_nb_lt hp hq
        have q0i : gr_v (some q0) = nI q0 := rfl
        by_cases ht : wt_tk (va_up T K p) (K + 1) q0
        · have t45 := hR1.2.2.1 q0 q0l ht
          refine SW.iload (q := 39) (i := 4) dX6_take_37 rfl rfl ?_
          refine SW.iconst (q := 40) (v := 4) dX6_take_39 (by decide) rfl ?_
          refine SW.icmp_ge (q := 43) (tgt := 142) dX6_take_40 (by decide) rfl (fun c40 => absurd c40 ((nI_ge (a := e) (b := 4) (by omega) (by omega)))) (fun _ => ?_)
          refine SW.aload_n (q := 44) (i := 1) dX6_take_43 rfl rfl rfl ?_
          refine SW.iload_n (q := 45) (i := 3) dX6_take_44 rfl rfl rfl ?_
          refine SW.iload (q := 47) (i := 4) dX6_take_45 rfl rfl ?_
          refine SW.cF (q := 50) (C_X5_beside hG3.1 rfl rfl hp (by omega)) vX6_108 (by decide) rfl rfl rfl rfl (Nat.le_of_ble_eq_true rfl) dX6_take_47 rfl ?_
          rw [hq, q0i]
          refine SW.istore (q := 52) (i := 5) dX6_take_50 (by decide) rfl ?_
          refine SW.iload (q := 54) (i := 5) dX6_take_52 rfl rfl ?_
          refine SW.bipush (q := 56) (v := (-6)) dX6_take_54 (by decide) rfl ?_
          refine SW.icmp_eq (q := 59) (tgt := 136) dX6_take_56 (by decide) rfl (fun c56 => absurd c56 ((nI_n6 (by omega)))) (fun _ => ?_)
          refine SW.aload_n (q := 60) (i := 0) dX6_take_59 rfl rfl rfl ?_
          refine SW.getR (q := 63) (i := 2) (j := 19) fX6_29 rfl rfl dX6_take_60 rfl ?_
          refine SW.iload (q := 65) (i := 5) dX6_take_63 rfl rfl ?_
          refine SW.cF (q := 68) (C_X3_atn (i := 19) (j := 45) (n := 576) rfl rfl (k := q0) rfl (by omega)) vX6_74 (by decide) rfl rfl rfl rfl (Nat.le_of_ble_eq_true rfl) dX6_take_65 rfl ?_
          refine SW.bipush (q := 70) (v := (-6)) dX6_take_68 (by decide) rfl ?_
          refine SW.icmp_ne (q := 73) (tgt := 136) dX6_take_70 (by decide) rfl (fun _ => ?_) (fun c70 => absurd c70 ((by rw [f2 45 (by decide), t45.1]; exact nI_n6 (by omega))))
          refine SW.iinc (q := 139) (v := _ + 1) dX6_take_136 rfl rfl (by decide) rfl ?_
          refine SW.goto (q := 37) dX6_take_139 (by decide) ?_
          exact SW.eq (by rw [nI_1]; rfl) rfl rfl (ih (e + 1) (by omega) _ ce σ1 τ f1 hR1 f2 (by omega) (same (fun q1 z => by rw [hq] at z; cases z; exact ht)))
        · have t45 := hR1.2.2.2 q0 q0l ht
          have sadj : wl_adj n q0 p := ⟨3 - e, by omega, gr_nb_sym hp hq⟩
          have t41 : τ 41 p = nI (va_up lv p l p) := by rw [up_i, f3 41 (by decide)]; exact e1
          have hlS : ∀ r, wl_adj n q0 r → (wt_tk T K r ∨ (r = p ∧ ∃ e', e' < e ∧ gr_nb n p e' = some q0)) → va_up lv p l r ≤ 400 := fun r ha hs => lv4 q0 r q0l ha (hs.elim Or.inl (fun z => Or.inr z.1))
          have hS : ∀ q, q < n * n → ¬ wt_tk (va_up T K p) (K + 1) q → ∀ r, wl_adj n q r → (((wt_tk T K r ∨ (r = p ∧ ∃ e', e' < e ∧ gr_nb n p e' = some q)) ∨ (q = q0 ∧ r = p)) ↔ (wt_tk T K r ∨ (r = p ∧ ∃ e', e' < e + 1 ∧ gr_nb n p e' = some q))) := by
            intro q hq1 hu r ha
            constructor
            · rintro ((a | ⟨a, e', b1, b2⟩) | ⟨rfl, rfl⟩)
              · exact Or.inl a
              · exact Or.inr ⟨a, e', by omega, b2⟩
              · exact Or.inr ⟨rfl, e, by omega, hq⟩
            · rintro (a | ⟨a, e', b1, b2⟩)
              · exact Or.inl (Or.inl a)
              · by_cases z : e' = e
                · subst z; rw [hq] at b2; cases b2; exact Or.inr ⟨rfl, a⟩
                · exact Or.inl (Or.inr ⟨a, e', by omega, b2⟩)
          refine SW.iload (q := 39) (i := 4) dX6_take_37 rfl rfl ?_
          refine SW.iconst (q := 40) (v := 4) dX6_take_39 (by decide) rfl ?_
          refine SW.icmp_ge (q := 43) (tgt := 142) dX6_take_40 (by decide) rfl (fun c40 => absurd c40 ((nI_ge (a := e) (b := 4) (by omega) (by omega)))) (fun _ => ?_)
          refine SW.aload_n (q := 44) (i := 1) dX6_take_43 rfl rfl rfl ?_
          refine SW.iload_n (q := 45) (i := 3) dX6_take_44 rfl rfl rfl ?_
          refine SW.iload (q := 47) (i := 4) dX6_take_45 rfl rfl ?_
          refine SW.cF (q := 50) (C_X5_beside hG3.1 rfl rfl hp (by omega)) vX6_108 (by decide) rfl rfl rfl rfl (Nat.le_of_ble_eq_true rfl) dX6_take_47 rfl ?_
          rw [hq, q0i]
          refine SW.istore (q := 52) (i := 5) dX6_take_50 (by decide) rfl ?_
          refine SW.iload (q := 54) (i := 5) dX6_take_52 rfl rfl ?_
          refine SW.bipush (q := 56) (v := (-6)) dX6_take_54 (by decide) rfl ?_
          refine SW.icmp_eq (q := 59) (tgt := 136) dX6_take_56 (by decide) rfl (fun c56 => absurd c56 ((nI_n6 (by omega)))) (fun _ => ?_)
          refine SW.aload_n (q := 60) (i := 0) dX6_take_59 rfl rfl rfl ?_
          refine SW.getR (q := 63) (i := 2) (j := 19) fX6_29 rfl rfl dX6_take_60 rfl ?_
          refine SW.iload (q := 65) (i := 5) dX6_take_63 rfl rfl ?_
          refine SW.cF (q := 68) (C_X3_atn (i := 19) (j := 45) (n := 576) rfl rfl (k := q0) rfl (by omega)) vX6_74 (by decide) rfl rfl rfl rfl (Nat.le_of_ble_eq_true rfl) dX6_take_65 rfl ?_
          refine SW.bipush (q := 70) (v := (-6)) dX6_take_68 (by decide) rfl ?_
          refine SW.icmp_ne (q := 73) (tgt := 136) dX6_take_70 (by decide) rfl (fun c70 => absurd ((by rw [f2 45 (by decide)]; exact t45)) c70) (fun _ => ?_)
          refine SW.aload_n (q := 74) (i := 0) dX6_take_73 rfl rfl rfl ?_
          refine SW.getR (q := 77) (i := 2) (j := 15) fX6_14 rfl rfl dX6_take_74 rfl ?_
          refine SW.iload_n (q := 78) (i := 3) dX6_take_77 rfl rfl rfl ?_
          refine SW.cF (q := 81) (C_X3_atn (i := 15) (j := 41) (n := 576) rfl rfl (k := p) rfl (by omega)) vX6_74 (by decide) rfl rfl rfl rfl (Nat.le_of_ble_eq_true rfl) dX6_take_78 rfl ?_
          refine SW.aload_n (q := 82) (i := 0) dX6_take_81 rfl rfl rfl ?_
          refine SW.getR (q := 85) (i := 2) (j := 21) fX6_35 rfl rfl dX6_take_82 rfl ?_
          refine SW.iload (q := 87) (i := 5) dX6_take_85 rfl rfl ?_
          refine SW.cF (q := 90) (C_X3_atn (i := 21) (j := 47) (n := 576) rfl rfl (k := q0) rfl (by omega)) vX6_74 (by decide) rfl rfl rfl rfl (Nat.le_of_ble_eq_true rfl) dX6_take_87 rfl ?_
          refine SW.icmp_ge (q := 93) (tgt := 136) dX6_take_90 (by decide) rfl (fun c90 => ?_) (fun c90 => ?_)
          · refine SW.iinc (q := 139) (v := _ + 1) dX6_take_136 rfl rfl (by decide) rfl ?_
            refine SW.goto (q := 37) dX6_take_139 (by decide) ?_
            first
            | exact SW.eq (by rw [nI_1]; rfl) rfl rfl (ih (e + 1) (by omega) _ ce σ1 τ f1 hR1 f2 (by omega) ((hH1.no q0l ht hlS (by rw [up_i]; exact l4) (by rw [← t41]; exact Int32.not_lt.mpr c90)).congr hS (fun _ _ _ _ _ _ => rfl)))
            | exact SW.eq (by rw [nI_1]; rfl) rfl rfl (ih (e + 1) (by omega) _ (ce + 1) σ1 u133 f1 hR1 (fr_tr (fr_up f2 (by decide)) s1 (by decide)) (by omega) ((hH1.yes n24 q0l ht sadj hlS (by rw [up_i]; exact l4) (fun q hq => (hG3.2 q hq).2) (by rw [← t41]; exact Int32.not_le.mp c90) s2 s3 s4 (by rw [s1 47 (by decide), sw_up_i, t41])).congr hS (fun _ _ _ _ _ _ => rfl)))
          · refine SW.aload_n (q := 94) (i := 0) dX6_take_93 rfl rfl rfl ?_
            refine SW.getR (q := 97) (i := 2) (j := 21) fX6_35 rfl rfl dX6_take_94 rfl ?_
            refine SW.iload (q := 99) (i := 5) dX6_take_97 rfl rfl ?_
            refine SW.aload_n (q := 100) (i := 0) dX6_take_99 rfl rfl rfl ?_
            refine SW.getR (q := 103) (i := 2) (j := 15) fX6_14 rfl rfl dX6_take_100 rfl ?_
            refine SW.iload_n (q := 104) (i := 3) dX6_take_103 rfl rfl rfl ?_
            refine SW.cF (q := 107) (C_X3_atn (i := 15) (j := 41) (n := 576) rfl rfl (k := p) rfl (by omega)) vX6_74 (by decide) rfl rfl rfl rfl (Nat.le_of_ble_eq_true rfl) dX6_take_104 rfl ?_
            refine SW.cG (q := 110) (C_X3_putn (i := 21) (j := 47) (n := 576) rfl rfl (k := q0) rfl (by omega)) vX6_82 (by decide) rfl rfl rfl rfl (Nat.le_of_ble_eq_true rfl) dX6_take_107 rfl ?_
            have t41b : sw_up τ 47 q0 (τ 41 p) 41 p = nI (va_up lv p l p) := by rw [sw_un (by decide)]; exact t41
            have t40b : sw_up τ 47 q0 (τ 41 p) 40 q0 = nI (h q0) := by rw [sw_un (by decide)]; exact (hG3.2 q0 q0l).1
            have hh0 := (hG3.2 q0 q0l).2
            refine SW.aload_n (q := 111) (i := 2) dX6_take_110 rfl rfl rfl ?_
            refine SW.aload_n (q := 112) (i := 0) dX6_take_111 rfl rfl rfl ?_
            refine SW.getR (q := 115) (i := 2) (j := 15) fX6_14 rfl rfl dX6_take_112 rfl ?_
            refine SW.iload_n (q := 116) (i := 3) dX6_take_115 rfl rfl rfl ?_
            refine SW.cF (q := 119) (C_X3_atn (i := 15) (j := 41) (n := 576) rfl rfl (k := p) rfl (by omega)) vX6_74 (by decide) rfl rfl rfl rfl (Nat.le_of_ble_eq_true rfl) dX6_take_116 rfl ?_
            refine SW.aload_n (q := 120) (i := 1) dX6_take_119 rfl rfl rfl ?_
            refine SW.getR (q := 123) (i := 1) (j := 14) fX6_71 rfl rfl dX6_take_120 rfl ?_
            refine SW.iload (q := 125) (i := 5) dX6_take_123 rfl rfl ?_
            refine SW.cF (q := 128) (C_X3_atn (i := 14) (j := 40) (n := 576) rfl rfl (k := q0) rfl (by omega)) vX6_74 (by decide) rfl rfl rfl rfl (Nat.le_of_ble_eq_true rfl) dX6_take_125 rfl ?_
            refine SW.sF (q := 131) (C_max) vX6_112 (by decide) rfl rfl (Nat.le_of_ble_eq_true rfl) dX6_take_128 rfl ?_
            refine SW.iload (q := 133) (i := 5) dX6_take_131 rfl rfl ?_
            refine SW.cV (q := 136) (C_X0_insert (c := ce) (by rw [sw_un (by decide)]; exact hH1.1) (by omega) (by rw [sw_un (by decide)]; exact hH1.2.1)) vX6_117 (by decide) rfl rfl rfl rfl (Nat.le_of_ble_eq_true rfl) dX6_take_133 rfl (fun u133 r133 => ?_)
            obtain ⟨s1, s2, s3, s4⟩ := r133
            have hmx : wt_mx (va_up lv p l p) (h q0) ≤ 400 := by
              rw [up_i]; unfold wt_mx; split <;> omega
            rw [t41b, t40b, sw_max_N (by rw [up_i]; omega) (by omega), hp_key_e (by omega) (by omega), sw_un (by decide)] at s4
            refine SW.iinc (q := 139) (v := _ + 1) dX6_take_136 rfl rfl (by decide) rfl ?_
            refine SW.goto (q := 37) dX6_take_139 (by decide) ?_
            first
            | exact SW.eq (by rw [nI_1]; rfl) rfl rfl (ih (e + 1) (by omega) _ ce σ1 τ f1 hR1 f2 (by omega) ((hH1.no q0l ht hlS (by rw [up_i]; exact l4) (by rw [← t41]; exact Int32.not_lt.mpr c90)).congr hS (fun _ _ _ _ _ _ => rfl)))
            | exact SW.eq (by rw [nI_1]; rfl) rfl rfl (ih (e + 1) (by omega) _ (ce + 1) σ1 u133 f1 hR1 (fr_tr (fr_up f2 (by decide)) s1 (by decide)) (by omega) ((hH1.yes n24 q0l ht sadj hlS (by rw [up_i]; exact l4) (fun q hq => (hG3.2 q hq).2) (by rw [← t41]; exact Int32.not_le.mp c90) s2 s3 s4 (by rw [s1 47 (by decide), sw_up_i, t41])).congr hS (fun _ _ _ _ _ _ => rfl)))
  refine SW.aload_n (q := 1) (i := 0) dX6_take_0 rfl rfl rfl ?_
  refine SW.getR (q := 4) (i := 2) (j := 19) fX6_29 rfl rfl dX6_take_1 rfl ?_
  refine SW.iload_n (q := 5) (i := 3) dX6_take_4 rfl rfl rfl ?_
  refine SW.aload_n (q := 6) (i := 0) dX6_take_5 rfl rfl rfl ?_
  refine SW.getI (q := 9) (i := 2) fX6_41 rfl rfl dX6_take_6 rfl ?_
  refine SW.cG (q := 12) (C_X3_putn (i := 19) (j := 45) (n := 576) rfl rfl (k := p) rfl (by omega)) vX6_82 (by decide) rfl rfl rfl rfl (Nat.le_of_ble_eq_true rfl) dX6_take_9 rfl ?_
  refine SW.aload_n (q := 13) (i := 0) dX6_take_12 rfl rfl rfl ?_
  refine SW.getR (q := 16) (i := 2) (j := 20) fX6_32 rfl rfl dX6_take_13 rfl ?_
  refine SW.aload_n (q := 17) (i := 0) dX6_take_16 rfl rfl rfl ?_
  refine SW.getI (q := 20) (i := 2) fX6_41 rfl rfl dX6_take_17 rfl ?_
  refine SW.iload_n (q := 21) (i := 3) dX6_take_20 rfl rfl rfl ?_
  refine SW.cG (q := 24) (C_X3_putn (i := 20) (j := 46) (n := 576) rfl rfl (k := K) (by rw [sw_un (by decide)]; exact r1) (by omega)) vX6_82 (by decide) rfl rfl rfl rfl (Nat.le_of_ble_eq_true rfl) dX6_take_21 rfl ?_
  refine SW.aload_n (q := 25) (i := 0) dX6_take_24 rfl rfl rfl ?_
  refine SW.dup (q := 26) dX6_take_25 rfl rfl ?_
  refine SW.getI (q := 29) (i := 2) fX6_41 rfl rfl dX6_take_26 rfl ?_
  refine SW.iconst (q := 30) (v := 1) dX6_take_29 (by decide) rfl ?_
  refine SW.iadd (q := 31) dX6_take_30 rfl ?_
  refine SW.putI (q := 34) (i := 2) pX6_41 rfl rfl dX6_take_31 rfl ?_
  refine SW.iconst (q := 35) (v := 0) dX6_take_34 (by decide) rfl ?_
  refine SW.istore (q := 37) (i := 4) dX6_take_35 (by decide) rfl ?_
  refine loop 4 0 rfl _ c _ _ (fr_up (fr_up (fr_up fr_rf (by decide)) (by decide)) (by decide)) ⟨?_, fun j hj => ?_, fun q hq ht => ?_, fun q hq ht => ?_⟩ fr_rf (by omega) ?_
  · rw [sw_i1, sw_un (by decide), sw_un (by decide), r1, nI_1]
  · rw [sw_un (by decide)]
    by_cases z : j = K
    · subst z; rw [sw_i1, up_i]
    · rw [sw_o1 z, sw_un (by decide), up_o z]; exact r2 j (by omega)
  · rw [sw_un (show 45 ≠ 2 by decide), sw_un (show 41 ≠ 2 by decide), sw_un (show 42 ≠ 2 by decide), sw_un (show 44 ≠ 2 by decide), sw_un (show 45 ≠ 46 by decide), sw_un (show 41 ≠ 46 by decide), sw_un (show 42 ≠ 46 by decide), sw_un (show 44 ≠ 46 by decide), sw_un (show 41 ≠ 45 by decide), sw_un (show 42 ≠ 45 by decide), sw_un (show 44 ≠ 45 by decide)]
    by_cases z : q = p
    · subst z; rw [sw_i1, up_i, up_i, up_i, up_i]; exact ⟨r1, hK, e1, l4, e2, e3⟩
    · rw [sw_o1 z, up_o z, up_o z, up_o z, up_o z]
      exact r3 q hq ((wt_tk_snoc.mp ht).resolve_right z)
  · have ht2 := fun z => ht (wt_tk_snoc.mpr z)
    rw [sw_un (by decide), sw_un (by decide), sw_o1 (fun z => ht2 (Or.inr z))]
    exact r4 q hq (fun z => ht2 (Or.inl z))
  · refine ww_H.fr (τ := σ) ?_ (by rw [sw_un (by decide), sw_un (by decide), sw_un (by decide)]) (by rw [sw_un (by decide), sw_un (by decide), sw_un (by decide)]) (by rw [sw_un (by decide), sw_un (by decide), sw_un (by decide)])
    refine (hH.sub (fun q hu => ⟨fun z => hu (wt_tk_snoc.mpr (Or.inl z)), fun z => hu (wt_tk_snoc.mpr (Or.inr z))⟩)).congr (fun q hq hu r ha => ?_) (fun q r hq hu ha hs => ?_)
    · exact ⟨Or.inl, fun z => z.elim id (fun z => absurd z.2.choose_spec.1 (Nat.not_lt_zero _))⟩
    · rw [up_o (show r ≠ p from fun z => hn (by rw [← z]; exact hs))]
end WTAKE
