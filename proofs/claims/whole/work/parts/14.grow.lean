/-! heights: the ground and the changes of a place, from 0 to 400 -/
def gr_hs (cx cy cb : Nat → Int32) (g x y : Int32) : Nat → Int32
  | 0 => g
  | k + 1 => if cx k = x ∧ cy k = y then gr_hs cx cy cb g x y k + cb k else gr_hs cx cy cb g x y k
def gr_cl (h : Int32) : Int32 := sw_max 0 (sw_min h 400)
theorem gr_cl_N (h : Int32) : ∃ k : Nat, k ≤ 400 ∧ gr_cl h = nI k := by
  unfold gr_cl sw_max sw_min
  by_cases h1 : (400 : Int32) < h
  · rw [if_pos h1]; exact ⟨400, by omega, by decide⟩
  · rw [if_neg h1]
    by_cases h2 : (0 : Int32) < h
    · rw [if_pos h2]
      exact nI_of2 (M := 400) (n := 400) (by decide) (fun h3 => absurd h2 (Int32.lt_asymm h3)) (Int32.not_lt.mp h1)
    · rw [if_neg h2]; exact ⟨0, by omega, by decide⟩
theorem gr_cl_e (h : Int32) : (if h < 0 then (0 : Int32) else if 400 < h then 400 else h) = gr_cl h := by
  unfold gr_cl sw_max sw_min
  by_cases h1 : (400 : Int32) < h
  · have h0 : ¬ h < 0 := fun h2 => absurd (Int32.lt_trans h1 h2) (by decide)
    rw [if_neg h0, if_pos h1]; decide
  · rw [if_neg h1]
    by_cases h2 : h < 0
    · rw [if_pos h2, if_neg (Int32.lt_asymm h2)]
    · rw [if_neg h2]
      by_cases h3 : (0 : Int32) < h
      · rw [if_pos h3]
      · rw [if_neg h3]; exact Int32.le_antisymm (Int32.not_lt.mp h3) (Int32.not_lt.mp h2)
/-- the height of a place, of the class's or the reference's numbers -/
def gr_ht (s : Int32) (cx cy cb : Nat → Int32) (c a b n p : Nat) : Int32 := gr_cl (gr_hs cx cy cb (nI (gr_g s (a + p % n) (b + p / n))) (nI (a + p % n)) (nI (b + p / n)) c)
theorem gr_hs_congr {cx cy cb cx' cy' cb' : Nat → Int32} {g x y : Int32} : ∀ c, (∀ k, k < c → cx k = cx' k ∧ cy k = cy' k ∧ cb k = cb' k) → gr_hs cx cy cb g x y c = gr_hs cx' cy' cb' g x y c := by
  intro c
  induction c with
  | zero => intro _; rfl
  | succ c ih =>
    intro h
    obtain ⟨h1, h2, h3⟩ := h c (by omega)
    simp only [gr_hs, ih (fun k hk => h k (by omega)), h1, h2, h3]
theorem gr_wi {cx a n : Nat} (h1 : cx < 2 ^ 30) (h2 : a < 2 ^ 30) (hn : 0 < n) (hn2 : n < 2 ^ 30) : sw_wi (nI cx - nI a) 0 (nI n - 1) = 0 ↔ ¬ (a ≤ cx ∧ cx - a < n) := by
  rw [sw_wi_e, nI_pr hn]
  refine not_congr ?_
  by_cases h : a ≤ cx
  · rw [pk_sub h]
    have e1 : (0 : Int32) ≤ nI (cx - a) := nI_pos' (by omega)
    rw [nI_leI (by omega) (by omega)]
    exact ⟨fun q => ⟨h, by omega⟩, fun q => ⟨e1, by omega⟩⟩
  · have e1 := pk_sneg (a := cx) (b := a) h2 (by omega)
    exact ⟨fun q => absurd q.1 (Int32.not_le.mpr e1), fun q => absurd q.1 h⟩
theorem sw_i1 {σ : sw_Sg} {i k : Nat} {v : Int32} : sw_up σ i k v i k = v := by rw [sw_up_i, upd_i]
theorem sw_o1 {σ : sw_Sg} {i k j : Nat} {v : Int32} (h : j ≠ k) : sw_up σ i k v i j = σ i j := by rw [sw_up_i, upd_o h]
section GROW
variable {X : sw_X} {σ : sw_Sg} {x y v : Int32} {n p q a b c : Nat}
theorem C_X5_growGround (n4 : 4 ≤ n) (n24 : n ≤ 24) (hside : σ 1 1 = nI n) (hl : σ 1 3 = nI a) (ht : σ 1 4 = nI b) (ha : a ≤ 100000) (hb : b ≤ 100000) :
    sw_Mv X 3 mX5_growGround [.ref (sw_ad X 1)] σ (fun u => fr_ [37, 38, 39] σ u ∧ ∀ p, p < n * n → u 37 p = nI (p % n) ∧ u 38 p = nI (p / n) ∧ u 39 p = nI (gr_g (σ 1 0) (a + p % n) (b + p / n))) := by
  have h576 := gr_576 n24
  refine sw_ME.ofF (by decide +kernel) rfl (Nat.le_of_ble_eq_true rfl) rfl ?_
  have inner : ∀ (R : Option Value → sw_Sg → Prop) (y : Nat), y < n → ∀ (m x : Nat), x + m = n → ∀ (B : Value) (τ : sw_Sg), fr_ [37, 38, 39] σ τ → (∀ p, p < n * y + x → τ 37 p = nI (p % n) ∧ τ 38 p = nI (p / n) ∧ τ 39 p = nI (gr_g (σ 1 0) (a + p % n) (b + p / n))) →
      (∀ (A B : Value) (τ : sw_Sg), fr_ [37, 38, 39] σ τ → (∀ p, p < n * y + n → τ 37 p = nI (p % n) ∧ τ 38 p = nI (p / n) ∧ τ 39 p = nI (gr_g (σ 1 0) (a + p % n) (b + p / n))) → SW X 3 mX5_growGround sw_E0 R 2 [.ref (sw_ad X 1), .int (nI (y + 1)), A, B] [] τ) →
      SW X 3 mX5_growGround sw_E0 R 12 [.ref (sw_ad X 1), .int (nI y), .int (nI x), B] [] τ := by
    intro R y hy m
    induction m with
    | zero =>
      intro x hx B τ hf hI kk
      obtain rfl : x = n := by omega
      refine SW.iload_n (q := 13) (i := 2) dX5_growGround_12 rfl rfl rfl ?_
      refine SW.aload_n (q := 14) (i := 0) dX5_growGround_13 rfl rfl rfl ?_
      refine SW.getI (q := 17) (i := 1) fX5_15 rfl rfl dX5_growGround_14 rfl ?_
      refine SW.icmp_ge (q := 20) (tgt := 77) dX5_growGround_17 (by decide) rfl (fun _ => ?_) (fun c17 => absurd ((by rw [hf 1 (by decide), hside]; exact Int32.le_refl _)) c17)
      refine SW.iinc (q := 80) (v := _ + 1) dX5_growGround_77 rfl rfl (by decide) rfl ?_
      refine SW.goto (q := 2) dX5_growGround_80 (by decide) ?_
      exact SW.eq (by rw [nI_1]; rfl) rfl rfl (kk _ _ τ hf hI)
    | succ m ih =>
      intro x hx B τ hf hI kk
      have t1 : τ 1 1 = nI n := by rw [hf 1 (by decide)]; exact hside
      have ep : τ 1 1 * nI y + nI x = nI (n * y + x) := by rw [t1, pk_mul, nI_add]
      have hin := gr_in (n := n) (x := x) (y := y) (by omega) hy
      obtain ⟨g1, g2⟩ := gr_xy (n := n) (x := x) (y := y) (by omega)
      refine SW.iload_n (q := 13) (i := 2) dX5_growGround_12 rfl rfl rfl ?_
      refine SW.aload_n (q := 14) (i := 0) dX5_growGround_13 rfl rfl rfl ?_
      refine SW.getI (q := 17) (i := 1) fX5_15 rfl rfl dX5_growGround_14 rfl ?_
      refine SW.icmp_ge (q := 20) (tgt := 77) dX5_growGround_17 (by decide) rfl (fun c17 => absurd c17 ((by rw [t1]; exact nI_ge (by omega) (by omega)))) (fun _ => ?_)
      refine SW.aload_n (q := 21) (i := 0) dX5_growGround_20 rfl rfl rfl ?_
      refine SW.getI (q := 24) (i := 1) fX5_15 rfl rfl dX5_growGround_21 rfl ?_
      refine SW.iload_n (q := 25) (i := 1) dX5_growGround_24 rfl rfl rfl ?_
      refine SW.imul (q := 26) dX5_growGround_25 rfl ?_
      refine SW.iload_n (q := 27) (i := 2) dX5_growGround_26 rfl rfl rfl ?_
      refine SW.iadd (q := 28) dX5_growGround_27 rfl ?_
      refine SW.istore_n (q := 29) (i := 3) dX5_growGround_28 rfl (by decide) rfl ?_
      refine SW.aload_n (q := 30) (i := 0) dX5_growGround_29 rfl rfl rfl ?_
      refine SW.getR (q := 33) (i := 1) (j := 11) fX5_45 rfl rfl dX5_growGround_30 rfl ?_
      refine SW.iload_n (q := 34) (i := 3) dX5_growGround_33 rfl rfl rfl ?_
      refine SW.iload_n (q := 35) (i := 2) dX5_growGround_34 rfl rfl rfl ?_
      refine SW.cG (q := 38) (C_X3_putn (i := 11) (j := 37) (n := 576) rfl rfl (k := n * y + x) ep (by omega)) vX5_57 (by decide) rfl rfl rfl rfl (Nat.le_of_ble_eq_true rfl) dX5_growGround_35 rfl ?_
      refine SW.aload_n (q := 39) (i := 0) dX5_growGround_38 rfl rfl rfl ?_
      refine SW.getR (q := 42) (i := 1) (j := 12) fX5_48 rfl rfl dX5_growGround_39 rfl ?_
      refine SW.iload_n (q := 43) (i := 3) dX5_growGround_42 rfl rfl rfl ?_
      refine SW.iload_n (q := 44) (i := 1) dX5_growGround_43 rfl rfl rfl ?_
      refine SW.cG (q := 47) (C_X3_putn (i := 12) (j := 38) (n := 576) rfl rfl (k := n * y + x) ep (by omega)) vX5_57 (by decide) rfl rfl rfl rfl (Nat.le_of_ble_eq_true rfl) dX5_growGround_44 rfl ?_
      refine SW.aload_n (q := 48) (i := 0) dX5_growGround_47 rfl rfl rfl ?_
      refine SW.getR (q := 51) (i := 1) (j := 13) fX5_51 rfl rfl dX5_growGround_48 rfl ?_
      refine SW.iload_n (q := 52) (i := 3) dX5_growGround_51 rfl rfl rfl ?_
      refine SW.aload_n (q := 53) (i := 0) dX5_growGround_52 rfl rfl rfl ?_
      refine SW.aload_n (q := 54) (i := 0) dX5_growGround_53 rfl rfl rfl ?_
      refine SW.getI (q := 57) (i := 1) fX5_21 rfl rfl dX5_growGround_54 rfl ?_
      refine SW.iload_n (q := 58) (i := 2) dX5_growGround_57 rfl rfl rfl ?_
      refine SW.iadd (q := 59) dX5_growGround_58 rfl ?_
      refine SW.aload_n (q := 60) (i := 0) dX5_growGround_59 rfl rfl rfl ?_
      refine SW.getI (q := 63) (i := 1) fX5_24 rfl rfl dX5_growGround_60 rfl ?_
      refine SW.iload_n (q := 64) (i := 1) dX5_growGround_63 rfl rfl rfl ?_
      refine SW.iadd (q := 65) dX5_growGround_64 rfl ?_
      refine SW.cF (q := 68) (C_X5_groundOf (a := a + x) (b := b + y) (by rw [sw_un (by decide), sw_un (by decide), hf 1 (by decide), hl, nI_add]) (by rw [sw_un (by decide), sw_un (by decide), hf 1 (by decide), ht, nI_add]) (by omega) (by omega)) vX5_61 (by decide) rfl rfl rfl rfl (Nat.le_of_ble_eq_true rfl) dX5_growGround_65 rfl ?_
      refine SW.cG (q := 71) (C_X3_putn (i := 13) (j := 39) (n := 576) rfl rfl (k := n * y + x) ep (by omega)) vX5_57 (by decide) rfl rfl rfl rfl (Nat.le_of_ble_eq_true rfl) dX5_growGround_68 rfl ?_
      refine SW.iinc (q := 74) (v := _ + 1) dX5_growGround_71 rfl rfl (by decide) rfl ?_
      refine SW.goto (q := 12) dX5_growGround_74 (by decide) ?_
      refine SW.eq (by rw [nI_1]; rfl) rfl rfl (ih (x + 1) (by omega) _ _ (fr_up (fr_up (fr_up hf (by decide)) (by decide)) (by decide)) (fun p hp => ?_) kk)
      by_cases e : p = n * y + x
      · subst e
        rw [sw_un (by decide), sw_un (by decide), sw_i1, sw_un (by decide), sw_i1, sw_i1, g1, g2, sw_un (by decide), sw_un (by decide), hf 1 (by decide)]
        exact ⟨rfl, rfl, rfl⟩
      · have := hI p (by omega)
        rw [sw_un (by decide), sw_un (by decide), sw_o1 e, sw_un (by decide), sw_o1 e, sw_un (by decide), sw_o1 e, sw_un (by decide), sw_un (by decide)]
        exact this
  have outer : ∀ (m y : Nat), y + m = n → ∀ (A B : Value) (τ : sw_Sg), fr_ [37, 38, 39] σ τ → (∀ p, p < n * y → τ 37 p = nI (p % n) ∧ τ 38 p = nI (p / n) ∧ τ 39 p = nI (gr_g (σ 1 0) (a + p % n) (b + p / n))) →
      SW X 3 mX5_growGround sw_E0 (sw_Rv (fun u => fr_ [37, 38, 39] σ u ∧ ∀ p, p < n * n → u 37 p = nI (p % n) ∧ u 38 p = nI (p / n) ∧ u 39 p = nI (gr_g (σ 1 0) (a + p % n) (b + p / n)))) 2 [.ref (sw_ad X 1), .int (nI y), A, B] [] τ := by
    intro m
    induction m with
    | zero =>
      intro y hy A B τ hf hI
      obtain rfl : y = n := by omega
      refine SW.iload_n (q := 3) (i := 1) dX5_growGround_2 rfl rfl rfl ?_
      refine SW.aload_n (q := 4) (i := 0) dX5_growGround_3 rfl rfl rfl ?_
      refine SW.getI (q := 7) (i := 1) fX5_15 rfl rfl dX5_growGround_4 rfl ?_
      refine SW.icmp_ge (q := 10) (tgt := 83) dX5_growGround_7 (by decide) rfl (fun _ => ?_) (fun c7 => absurd ((by rw [hf 1 (by decide), hside]; exact Int32.le_refl _)) c7)
      refine SW.vretR rfl dX5_growGround_83 ?_
      exact ⟨hf, hI⟩
    | succ m ih =>
      intro y hy A B τ hf hI
      refine SW.iload_n (q := 3) (i := 1) dX5_growGround_2 rfl rfl rfl ?_
      refine SW.aload_n (q := 4) (i := 0) dX5_growGround_3 rfl rfl rfl ?_
      refine SW.getI (q := 7) (i := 1) fX5_15 rfl rfl dX5_growGround_4 rfl ?_
      refine SW.icmp_ge (q := 10) (tgt := 83) dX5_growGround_7 (by decide) rfl (fun c7 => absurd c7 ((by rw [hf 1 (by decide), hside]; exact nI_ge (by omega) (by omega)))) (fun _ => ?_)
      refine SW.iconst (q := 11) (v := 0) dX5_growGround_10 (by decide) rfl ?_
      refine SW.istore_n (q := 12) (i := 2) dX5_growGround_11 rfl (by decide) rfl ?_
      exact inner _ y (by omega) n 0 (by omega) B τ hf hI (fun A B τ hf hI => ih (y + 1) (by omega) A B τ hf (fun p hp => hI p (by rw [Nat.mul_add, Nat.mul_one] at hp; exact hp)))
  refine SW.iconst (q := 1) (v := 0) dX5_growGround_0 (by decide) rfl ?_
  refine SW.istore_n (q := 2) (i := 1) dX5_growGround_1 rfl (by decide) rfl ?_
  exact outer n 0 (by omega) _ _ σ fr_rf (fun p hp => by omega)
theorem C_X5_addChange (hT : gr_T σ n) (hx : x = nI p) (hp : p < n * n) (hc : σ 1 5 = nI c) (hc30 : c < 30) :
    sw_G X 1 mX5_addChange [.ref (sw_ad X 1), .int x, .int y] σ (sw_up (sw_up (sw_up (sw_up σ 34 c (σ 1 3 + nI (p % n))) 35 c (σ 1 4 + nI (p / n))) 36 c y) 1 5 (nI (c + 1))) := by
  subst hx
  obtain ⟨n4, n24, hside, hpl, hcl⟩ := hT
  have h576 := gr_576 n24
  refine sw_ME.ofF (by decide +kernel) rfl (Nat.le_of_ble_eq_true rfl) rfl ?_
  refine SW.aload_n (q := 1) (i := 0) dX5_addChange_0 rfl rfl rfl ?_
  refine SW.getR (q := 4) (i := 1) (j := 8) fX5_35 rfl rfl dX5_addChange_1 rfl ?_
  refine SW.aload_n (q := 5) (i := 0) dX5_addChange_4 rfl rfl rfl ?_
  refine SW.getI (q := 8) (i := 1) fX5_27 rfl rfl dX5_addChange_5 rfl ?_
  refine SW.aload_n (q := 9) (i := 0) dX5_addChange_8 rfl rfl rfl ?_
  refine SW.getI (q := 12) (i := 1) fX5_21 rfl rfl dX5_addChange_9 rfl ?_
  refine SW.aload_n (q := 13) (i := 0) dX5_addChange_12 rfl rfl rfl ?_
  refine SW.getR (q := 16) (i := 1) (j := 11) fX5_45 rfl rfl dX5_addChange_13 rfl ?_
  refine SW.iload_n (q := 17) (i := 1) dX5_addChange_16 rfl rfl rfl ?_
  refine SW.cF (q := 20) (C_X3_atn (i := 11) (j := 37) (n := 576) rfl rfl (k := p) rfl (by omega)) vX5_77 (by decide) rfl rfl rfl rfl (Nat.le_of_ble_eq_true rfl) dX5_addChange_17 rfl ?_
  rw [(hcl p hp).1]
  refine SW.iadd (q := 21) dX5_addChange_20 rfl ?_
  refine SW.cG (q := 24) (C_X3_putn (i := 8) (j := 34) (n := 30) rfl rfl (k := c) hc (by omega)) vX5_57 (by decide) rfl rfl rfl rfl (Nat.le_of_ble_eq_true rfl) dX5_addChange_21 rfl ?_
  refine SW.aload_n (q := 25) (i := 0) dX5_addChange_24 rfl rfl rfl ?_
  refine SW.getR (q := 28) (i := 1) (j := 9) fX5_39 rfl rfl dX5_addChange_25 rfl ?_
  refine SW.aload_n (q := 29) (i := 0) dX5_addChange_28 rfl rfl rfl ?_
  refine SW.getI (q := 32) (i := 1) fX5_27 rfl rfl dX5_addChange_29 rfl ?_
  refine SW.aload_n (q := 33) (i := 0) dX5_addChange_32 rfl rfl rfl ?_
  refine SW.getI (q := 36) (i := 1) fX5_24 rfl rfl dX5_addChange_33 rfl ?_
  refine SW.aload_n (q := 37) (i := 0) dX5_addChange_36 rfl rfl rfl ?_
  refine SW.getR (q := 40) (i := 1) (j := 12) fX5_48 rfl rfl dX5_addChange_37 rfl ?_
  refine SW.iload_n (q := 41) (i := 1) dX5_addChange_40 rfl rfl rfl ?_
  refine SW.cF (q := 44) (C_X3_atn (i := 12) (j := 38) (n := 576) rfl rfl (k := p) rfl (by omega)) vX5_77 (by decide) rfl rfl rfl rfl (Nat.le_of_ble_eq_true rfl) dX5_addChange_41 rfl ?_
  rw [sw_un (show 38 ≠ 34 by decide), (hcl p hp).2]
  refine SW.iadd (q := 45) dX5_addChange_44 rfl ?_
  refine SW.cG (q := 48) (C_X3_putn (i := 9) (j := 35) (n := 30) rfl rfl (k := c) hc (by omega)) vX5_57 (by decide) rfl rfl rfl rfl (Nat.le_of_ble_eq_true rfl) dX5_addChange_45 rfl ?_
  refine SW.aload_n (q := 49) (i := 0) dX5_addChange_48 rfl rfl rfl ?_
  refine SW.getR (q := 52) (i := 1) (j := 10) fX5_42 rfl rfl dX5_addChange_49 rfl ?_
  refine SW.aload_n (q := 53) (i := 0) dX5_addChange_52 rfl rfl rfl ?_
  refine SW.getI (q := 56) (i := 1) fX5_27 rfl rfl dX5_addChange_53 rfl ?_
  refine SW.iload_n (q := 57) (i := 2) dX5_addChange_56 rfl rfl rfl ?_
  refine SW.cG (q := 60) (C_X3_putn (i := 10) (j := 36) (n := 30) rfl rfl (k := c) hc (by omega)) vX5_57 (by decide) rfl rfl rfl rfl (Nat.le_of_ble_eq_true rfl) dX5_addChange_57 rfl ?_
  refine SW.aload_n (q := 61) (i := 0) dX5_addChange_60 rfl rfl rfl ?_
  refine SW.dup (q := 62) dX5_addChange_61 rfl rfl ?_
  refine SW.getI (q := 65) (i := 1) fX5_27 rfl rfl dX5_addChange_62 rfl ?_
  refine SW.iconst (q := 66) (v := 1) dX5_addChange_65 (by decide) rfl ?_
  refine SW.iadd (q := 67) dX5_addChange_66 rfl ?_
  refine SW.putI (q := 70) (i := 1) pX5_27 rfl rfl dX5_addChange_67 rfl ?_
  refine SW.vretR rfl dX5_addChange_70 ?_
  show _ = _
  rw [← nI_1, ← hc]
  rfl
end GROW
