/-! the reference's places; rows of arrays at known places -/
section ROWK
variable {X : sw_X} {d : Nat} {me : sw_Me} {E : State → Prop} {R : Option Value → sw_Sg → Prop} {pc q : Nat} {L st rest : List Value} {σ : sw_Sg} {x y : Int32} {i n k : Nat}
theorem SW.ialdN (hsh : sw_sh i = .inl (false, n)) (hx : x = nI k) (hk : k < n) (hn : n < 2 ^ 31) (hd : decode me.2.1 pc = .ok (.iaload, 1)) (hq : pc + 1 = q) (kk : SW X d me E R q L (.int (σ i k) :: rest) σ) : SW X d me E R pc L (.int x :: .ref (sw_ad X i) :: rest) σ := by
  subst hx
  refine SW.iald hsh (vp_in_nI hk hn) hd hq ?_
  rw [nI_clamp (by omega)]
  exact kk
theorem SW.zaldN (hsh : sw_sh i = .inl (true, n)) (hx : x = nI k) (hk : k < n) (hn : n < 2 ^ 31) (hd : decode me.2.1 pc = .ok (.baload, 1)) (hq : pc + 1 = q) (kk : SW X d me E R q L (.int (σ i k) :: rest) σ) : SW X d me E R pc L (.int x :: .ref (sw_ad X i) :: rest) σ := by
  subst hx
  refine SW.zald hsh (vp_in_nI hk hn) hd hq ?_
  rw [nI_clamp (by omega)]
  exact kk
theorem SW.iastN (hsh : sw_sh i = .inl (false, n)) (hx : x = nI k) (hk : k < n) (hn : n < 2 ^ 31) (hd : decode me.2.1 pc = .ok (.iastore, 1)) (hq : pc + 1 = q) (kk : SW X d me E R q L rest (sw_up σ i k y)) : SW X d me E R pc L (.int y :: .int x :: .ref (sw_ad X i) :: rest) σ := by
  subst hx
  refine SW.iast hsh (vp_in_nI hk hn) hd hq ?_
  rw [nI_clamp (by omega)]
  exact kk
theorem SW.zastN (hsh : sw_sh i = .inl (true, n)) (hx : x = nI k) (hk : k < n) (hn : n < 2 ^ 31) (hy : vp_nar .boolean y = y) (hd : decode me.2.1 pc = .ok (.bastore, 1)) (hq : pc + 1 = q) (kk : SW X d me E R q L rest (sw_up σ i k y)) : SW X d me E R pc L (.int y :: .int x :: .ref (sw_ad X i) :: rest) σ := by
  subst hx
  refine SW.zast hsh (vp_in_nI hk hn) hy hd hq ?_
  rw [nI_clamp (by omega)]
  exact kk
end ROWK
/-- the reference's size -/
def gr_M (σ : sw_Sg) (n : Nat) : Prop := 4 ≤ n ∧ n ≤ 24 ∧ σ 59 1 = nI n
theorem gr_M.fr {l : List Nat} {σ u : sw_Sg} {n : Nat} (h : gr_M σ n) (hf : fr_ l σ u) (h1 : 59 ∉ l) : gr_M u n := ⟨h.1, h.2.1, by rw [hf 59 h1]; exact h.2.2⟩
theorem nI_pr {n : Nat} (h : 0 < n) : nI n - 1 = nI (n - 1) := by
  have := nI_pred (n - 1)
  rwa [show n - 1 + 1 = n by omega] at this
theorem nI_m1 {n : Nat} (h : 0 < n) : nI n + (-1) = nI (n - 1) := by
  have := pk_m1 (n - 1)
  rwa [show n - 1 + 1 = n by omega] at this
theorem gr_up {n p : Nat} (hn : 0 < n) (h : 0 < p / n) : n * (p / n - 1) + p % n = p - n := by
  have h1 := gr_pp (n := n) (p := p)
  have h2 : n * (p / n - 1) + n = n * (p / n) := by
    rw [Nat.mul_sub, Nat.mul_one]
    have : n * 1 ≤ n * (p / n) := Nat.mul_le_mul_left n h
    omega
  omega
section MTERR
variable {X : sw_X} {σ : sw_Sg} {x y v : Int32} {n p q e : Nat}
theorem C_X8_isPlace (hM : gr_M σ n) : sw_F X 1 mX8_isPlace [.ref (sw_ad X 59), .int x] σ (sw_wi x 0 (nI (n * n - 1))) σ := by
  obtain ⟨n4, n24, hn⟩ := hM
  have h16 : 4 * 4 ≤ n * n := Nat.mul_le_mul n4 n4
  refine sw_ME.ofF (by decide +kernel) rfl (Nat.le_of_ble_eq_true rfl) rfl ?_
  refine SW.iload_n (q := 1) (i := 1) dX8_isPlace_0 rfl rfl rfl ?_
  refine SW.iconst (q := 2) (v := 0) dX8_isPlace_1 (by decide) rfl ?_
  refine SW.aload_n (q := 3) (i := 0) dX8_isPlace_2 rfl rfl rfl ?_
  refine SW.getI (q := 6) (i := 59) fX8_7 rfl rfl dX8_isPlace_3 rfl ?_
  refine SW.aload_n (q := 7) (i := 0) dX8_isPlace_6 rfl rfl rfl ?_
  refine SW.getI (q := 10) (i := 59) fX8_7 rfl rfl dX8_isPlace_7 rfl ?_
  refine SW.imul (q := 11) dX8_isPlace_10 rfl ?_
  refine SW.iconst (q := 12) (v := 1) dX8_isPlace_11 (by decide) rfl ?_
  refine SW.isub (q := 13) dX8_isPlace_12 rfl ?_
  refine SW.sF (q := 16) (C_X8_in) vX8_69 (by decide) rfl rfl (Nat.le_of_ble_eq_true rfl) dX8_isPlace_13 rfl ?_
  refine SW.iretR rfl (by unfold sw_wi; split <;> rfl) dX8_isPlace_16 ?_
  exact ⟨by rw [hn, pk_mul, nI_pr (by omega)], rfl⟩
theorem C_X8_beside (hM : gr_M σ n) (hx : x = nI p) (hy : y = nI e) (hp : p < n * n) (he : e < 4) : sw_F X 1 mX8_beside [.ref (sw_ad X 59), .int x, .int y] σ (gr_v (gr_nb n p e)) σ := by
  subst hx; subst hy
  obtain ⟨n4, n24, hn⟩ := hM
  have h576 := gr_576 n24
  obtain ⟨l1, l2, l3⟩ := gr_lt hp
  have ex : nI p - nI p / nI n * nI n = nI (p % n) := pk_rem (by omega) l3 (by omega)
  have ey : nI p / nI n = nI (p / n) := pk_div (by omega) l3 (by omega)
  have en1 : nI n - 1 = nI (n - 1) := nI_pr l3
  have hne : ¬ σ 59 1 = 0 := by rw [hn]; exact nI_ne0 l3 (by omega)
  refine sw_ME.ofF (by decide +kernel) rfl (Nat.le_of_ble_eq_true rfl) rfl ?_
  rcases (show e = 0 ∨ e = 1 ∨ e = 2 ∨ e = 3 by omega) with rfl | rfl | rfl | rfl
  · by_cases h : 0 < p / n
    · refine SW.iload_n (q := 1) (i := 1) dX8_beside_0 rfl rfl rfl ?_
      refine SW.aload_n (q := 2) (i := 0) dX8_beside_1 rfl rfl rfl ?_
      refine SW.getI (q := 5) (i := 59) fX8_7 rfl rfl dX8_beside_2 rfl ?_
      refine SW.irem (q := 6) dX8_beside_5 hne rfl ?_
      refine SW.iload_n (q := 7) (i := 2) dX8_beside_6 rfl rfl rfl ?_
      refine SW.iconst (q := 8) (v := 1) dX8_beside_7 (by decide) rfl ?_
      refine SW.icmp_ne (q := 11) (tgt := 15) dX8_beside_8 (by decide) rfl (fun _ => ?_) (fun c8 => absurd c8 ((by decide)))
      refine SW.iload_n (q := 16) (i := 2) dX8_beside_15 rfl rfl rfl ?_
      refine SW.iconst (q := 17) (v := 2) dX8_beside_16 (by decide) rfl ?_
      refine SW.icmp_ne (q := 20) (tgt := 24) dX8_beside_17 (by decide) rfl (fun _ => ?_) (fun c17 => absurd c17 ((by decide)))
      refine SW.iconst (q := 25) (v := 0) dX8_beside_24 (by decide) rfl ?_
      refine SW.iadd (q := 26) dX8_beside_25 rfl ?_
      refine SW.istore_n (q := 27) (i := 3) dX8_beside_26 rfl (by decide) rfl ?_
      refine SW.iload_n (q := 28) (i := 1) dX8_beside_27 rfl rfl rfl ?_
      refine SW.aload_n (q := 29) (i := 0) dX8_beside_28 rfl rfl rfl ?_
      refine SW.getI (q := 32) (i := 59) fX8_7 rfl rfl dX8_beside_29 rfl ?_
      refine SW.idiv (q := 33) dX8_beside_32 hne rfl ?_
      refine SW.iload_n (q := 34) (i := 2) dX8_beside_33 rfl rfl rfl ?_
      refine SW.if_ne (q := 37) (tgt := 41) dX8_beside_34 (by decide) rfl (fun c34 => absurd ((by decide)) c34) (fun _ => ?_)
      refine SW.iconst (q := 38) (v := (-1)) dX8_beside_37 (by decide) rfl ?_
      refine SW.goto (q := 51) dX8_beside_38 (by decide) ?_
      refine SW.iadd (q := 52) dX8_beside_51 rfl ?_
      refine SW.istore (q := 54) (i := 4) dX8_beside_52 (by decide) rfl ?_
      refine SW.iload_n (q := 55) (i := 3) dX8_beside_54 rfl rfl rfl ?_
      refine SW.iconst (q := 56) (v := 0) dX8_beside_55 (by decide) rfl ?_
      refine SW.aload_n (q := 57) (i := 0) dX8_beside_56 rfl rfl rfl ?_
      refine SW.getI (q := 60) (i := 59) fX8_7 rfl rfl dX8_beside_57 rfl ?_
      refine SW.iconst (q := 61) (v := 1) dX8_beside_60 (by decide) rfl ?_
      refine SW.isub (q := 62) dX8_beside_61 rfl ?_
      refine SW.sF (q := 65) (C_X8_in) vX8_69 (by decide) rfl rfl (Nat.le_of_ble_eq_true rfl) dX8_beside_62 rfl ?_
      refine SW.if_eq (q := 68) (tgt := 95) dX8_beside_65 (by decide) rfl (fun c65 => absurd c65 ((by rw [hn, ex, Int32.add_zero, en1]; exact sw_wi_1 (nI_pos' (by omega)) (nI_le (by omega) (by omega))))) (fun _ => ?_)
      refine SW.iload (q := 70) (i := 4) dX8_beside_68 rfl rfl ?_
      refine SW.iconst (q := 71) (v := 0) dX8_beside_70 (by decide) rfl ?_
      refine SW.aload_n (q := 72) (i := 0) dX8_beside_71 rfl rfl rfl ?_
      refine SW.getI (q := 75) (i := 59) fX8_7 rfl rfl dX8_beside_72 rfl ?_
      refine SW.iconst (q := 76) (v := 1) dX8_beside_75 (by decide) rfl ?_
      refine SW.isub (q := 77) dX8_beside_76 rfl ?_
      refine SW.sF (q := 80) (C_X8_in) vX8_69 (by decide) rfl rfl (Nat.le_of_ble_eq_true rfl) dX8_beside_77 rfl ?_
      refine SW.if_eq (q := 83) (tgt := 95) dX8_beside_80 (by decide) rfl (fun c80 => absurd c80 ((by rw [hn, ey, nI_m1 h, en1]; exact sw_wi_1 (nI_pos' (by omega)) (nI_le (by omega) (by omega))))) (fun _ => ?_)
      refine SW.aload_n (q := 84) (i := 0) dX8_beside_83 rfl rfl rfl ?_
      refine SW.getI (q := 87) (i := 59) fX8_7 rfl rfl dX8_beside_84 rfl ?_
      refine SW.iload (q := 89) (i := 4) dX8_beside_87 rfl rfl ?_
      refine SW.imul (q := 90) dX8_beside_89 rfl ?_
      refine SW.iload_n (q := 91) (i := 3) dX8_beside_90 rfl rfl rfl ?_
      refine SW.iadd (q := 92) dX8_beside_91 rfl ?_
      refine SW.goto (q := 97) dX8_beside_92 (by decide) ?_
      refine SW.iretR rfl rfl dX8_beside_97 ?_
      exact ⟨by rw [hn, ex, ey, Int32.add_zero, nI_m1 h, pk_mul, nI_add, gr_up l3 h, gr_nb, if_pos h]; rfl, rfl⟩
    · refine SW.iload_n (q := 1) (i := 1) dX8_beside_0 rfl rfl rfl ?_
      refine SW.aload_n (q := 2) (i := 0) dX8_beside_1 rfl rfl rfl ?_
      refine SW.getI (q := 5) (i := 59) fX8_7 rfl rfl dX8_beside_2 rfl ?_
      refine SW.irem (q := 6) dX8_beside_5 hne rfl ?_
      refine SW.iload_n (q := 7) (i := 2) dX8_beside_6 rfl rfl rfl ?_
      refine SW.iconst (q := 8) (v := 1) dX8_beside_7 (by decide) rfl ?_
      refine SW.icmp_ne (q := 11) (tgt := 15) dX8_beside_8 (by decide) rfl (fun _ => ?_) (fun c8 => absurd c8 ((by decide)))
      refine SW.iload_n (q := 16) (i := 2) dX8_beside_15 rfl rfl rfl ?_
      refine SW.iconst (q := 17) (v := 2) dX8_beside_16 (by decide) rfl ?_
      refine SW.icmp_ne (q := 20) (tgt := 24) dX8_beside_17 (by decide) rfl (fun _ => ?_) (fun c17 => absurd c17 ((by decide)))
      refine SW.iconst (q := 25) (v := 0) dX8_beside_24 (by decide) rfl ?_
      refine SW.iadd (q := 26) dX8_beside_25 rfl ?_
      refine SW.istore_n (q := 27) (i := 3) dX8_beside_26 rfl (by decide) rfl ?_
      refine SW.iload_n (q := 28) (i := 1) dX8_beside_27 rfl rfl rfl ?_
      refine SW.aload_n (q := 29) (i := 0) dX8_beside_28 rfl rfl rfl ?_
      refine SW.getI (q := 32) (i := 59) fX8_7 rfl rfl dX8_beside_29 rfl ?_
      refine SW.idiv (q := 33) dX8_beside_32 hne rfl ?_
      refine SW.iload_n (q := 34) (i := 2) dX8_beside_33 rfl rfl rfl ?_
      refine SW.if_ne (q := 37) (tgt := 41) dX8_beside_34 (by decide) rfl (fun c34 => absurd ((by decide)) c34) (fun _ => ?_)
      refine SW.iconst (q := 38) (v := (-1)) dX8_beside_37 (by decide) rfl ?_
      refine SW.goto (q := 51) dX8_beside_38 (by decide) ?_
      refine SW.iadd (q := 52) dX8_beside_51 rfl ?_
      refine SW.istore (q := 54) (i := 4) dX8_beside_52 (by decide) rfl ?_
      refine SW.iload_n (q := 55) (i := 3) dX8_beside_54 rfl rfl rfl ?_
      refine SW.iconst (q := 56) (v := 0) dX8_beside_55 (by decide) rfl ?_
      refine SW.aload_n (q := 57) (i := 0) dX8_beside_56 rfl rfl rfl ?_
      refine SW.getI (q := 60) (i := 59) fX8_7 rfl rfl dX8_beside_57 rfl ?_
      refine SW.iconst (q := 61) (v := 1) dX8_beside_60 (by decide) rfl ?_
      refine SW.isub (q := 62) dX8_beside_61 rfl ?_
      refine SW.sF (q := 65) (C_X8_in) vX8_69 (by decide) rfl rfl (Nat.le_of_ble_eq_true rfl) dX8_beside_62 rfl ?_
      refine SW.if_eq (q := 68) (tgt := 95) dX8_beside_65 (by decide) rfl (fun c65 => absurd c65 ((by rw [hn, ex, Int32.add_zero, en1]; exact sw_wi_1 (nI_pos' (by omega)) (nI_le (by omega) (by omega))))) (fun _ => ?_)
      refine SW.iload (q := 70) (i := 4) dX8_beside_68 rfl rfl ?_
      refine SW.iconst (q := 71) (v := 0) dX8_beside_70 (by decide) rfl ?_
      refine SW.aload_n (q := 72) (i := 0) dX8_beside_71 rfl rfl rfl ?_
      refine SW.getI (q := 75) (i := 59) fX8_7 rfl rfl dX8_beside_72 rfl ?_
      refine SW.iconst (q := 76) (v := 1) dX8_beside_75 (by decide) rfl ?_
      refine SW.isub (q := 77) dX8_beside_76 rfl ?_
      refine SW.sF (q := 80) (C_X8_in) vX8_69 (by decide) rfl rfl (Nat.le_of_ble_eq_true rfl) dX8_beside_77 rfl ?_
      refine SW.if_eq (q := 83) (tgt := 95) dX8_beside_80 (by decide) rfl (fun _ => ?_) (fun c80 => absurd ((by rw [hn, ey, Nat.eq_zero_of_not_pos h, en1]; exact sw_wi_0 (fun h => absurd h.1 (by decide)))) c80)
      refine SW.bipush (q := 97) (v := (-6)) dX8_beside_95 (by decide) rfl ?_
      refine SW.iretR rfl rfl dX8_beside_97 ?_
      exact ⟨by rw [gr_nb, if_neg h]; rfl, rfl⟩
  · by_cases h : 0 < p % n
    · have h1 : p % n ≤ p := Nat.mod_le _ _
      refine SW.iload_n (q := 1) (i := 1) dX8_beside_0 rfl rfl rfl ?_
      refine SW.aload_n (q := 2) (i := 0) dX8_beside_1 rfl rfl rfl ?_
      refine SW.getI (q := 5) (i := 59) fX8_7 rfl rfl dX8_beside_2 rfl ?_
      refine SW.irem (q := 6) dX8_beside_5 hne rfl ?_
      refine SW.iload_n (q := 7) (i := 2) dX8_beside_6 rfl rfl rfl ?_
      refine SW.iconst (q := 8) (v := 1) dX8_beside_7 (by decide) rfl ?_
      refine SW.icmp_ne (q := 11) (tgt := 15) dX8_beside_8 (by decide) rfl (fun c8 => absurd ((by decide)) c8) (fun _ => ?_)
      refine SW.iconst (q := 12) (v := (-1)) dX8_beside_11 (by decide) rfl ?_
      refine SW.goto (q := 25) dX8_beside_12 (by decide) ?_
      refine SW.iadd (q := 26) dX8_beside_25 rfl ?_
      refine SW.istore_n (q := 27) (i := 3) dX8_beside_26 rfl (by decide) rfl ?_
      refine SW.iload_n (q := 28) (i := 1) dX8_beside_27 rfl rfl rfl ?_
      refine SW.aload_n (q := 29) (i := 0) dX8_beside_28 rfl rfl rfl ?_
      refine SW.getI (q := 32) (i := 59) fX8_7 rfl rfl dX8_beside_29 rfl ?_
      refine SW.idiv (q := 33) dX8_beside_32 hne rfl ?_
      refine SW.iload_n (q := 34) (i := 2) dX8_beside_33 rfl rfl rfl ?_
      refine SW.if_ne (q := 37) (tgt := 41) dX8_beside_34 (by decide) rfl (fun _ => ?_) (fun c34 => absurd c34 ((by decide)))
      refine SW.iload_n (q := 42) (i := 2) dX8_beside_41 rfl rfl rfl ?_
      refine SW.iconst (q := 43) (v := 3) dX8_beside_42 (by decide) rfl ?_
      refine SW.icmp_ne (q := 46) (tgt := 50) dX8_beside_43 (by decide) rfl (fun _ => ?_) (fun c43 => absurd c43 ((by decide)))
      refine SW.iconst (q := 51) (v := 0) dX8_beside_50 (by decide) rfl ?_
      refine SW.iadd (q := 52) dX8_beside_51 rfl ?_
      refine SW.istore (q := 54) (i := 4) dX8_beside_52 (by decide) rfl ?_
      refine SW.iload_n (q := 55) (i := 3) dX8_beside_54 rfl rfl rfl ?_
      refine SW.iconst (q := 56) (v := 0) dX8_beside_55 (by decide) rfl ?_
      refine SW.aload_n (q := 57) (i := 0) dX8_beside_56 rfl rfl rfl ?_
      refine SW.getI (q := 60) (i := 59) fX8_7 rfl rfl dX8_beside_57 rfl ?_
      refine SW.iconst (q := 61) (v := 1) dX8_beside_60 (by decide) rfl ?_
      refine SW.isub (q := 62) dX8_beside_61 rfl ?_
      refine SW.sF (q := 65) (C_X8_in) vX8_69 (by decide) rfl rfl (Nat.le_of_ble_eq_true rfl) dX8_beside_62 rfl ?_
      refine SW.if_eq (q := 68) (tgt := 95) dX8_beside_65 (by decide) rfl (fun c65 => absurd c65 ((by rw [hn, ex, nI_m1 h, en1]; exact sw_wi_1 (nI_pos' (by omega)) (nI_le (by omega) (by omega))))) (fun _ => ?_)
      refine SW.iload (q := 70) (i := 4) dX8_beside_68 rfl rfl ?_
      refine SW.iconst (q := 71) (v := 0) dX8_beside_70 (by decide) rfl ?_
      refine SW.aload_n (q := 72) (i := 0) dX8_beside_71 rfl rfl rfl ?_
      refine SW.getI (q := 75) (i := 59) fX8_7 rfl rfl dX8_beside_72 rfl ?_
      refine SW.iconst (q := 76) (v := 1) dX8_beside_75 (by decide) rfl ?_
      refine SW.isub (q := 77) dX8_beside_76 rfl ?_
      refine SW.sF (q := 80) (C_X8_in) vX8_69 (by decide) rfl rfl (Nat.le_of_ble_eq_true rfl) dX8_beside_77 rfl ?_
      refine SW.if_eq (q := 83) (tgt := 95) dX8_beside_80 (by decide) rfl (fun c80 => absurd c80 ((by rw [hn, ey, Int32.add_zero, en1]; exact sw_wi_1 (nI_pos' (by omega)) (nI_le (by omega) (by omega))))) (fun _ => ?_)
      refine SW.aload_n (q := 84) (i := 0) dX8_beside_83 rfl rfl rfl ?_
      refine SW.getI (q := 87) (i := 59) fX8_7 rfl rfl dX8_beside_84 rfl ?_
      refine SW.iload (q := 89) (i := 4) dX8_beside_87 rfl rfl ?_
      refine SW.imul (q := 90) dX8_beside_89 rfl ?_
      refine SW.iload_n (q := 91) (i := 3) dX8_beside_90 rfl rfl rfl ?_
      refine SW.iadd (q := 92) dX8_beside_91 rfl ?_
      refine SW.goto (q := 97) dX8_beside_92 (by decide) ?_
      refine SW.iretR rfl rfl dX8_beside_97 ?_
      exact ⟨by rw [hn, ex, ey, Int32.add_zero, nI_m1 h, pk_mul, nI_add, show n * (p / n) + (p % n - 1) = p - 1 by have := gr_pp (n := n) (p := p); omega, gr_nb, if_pos h]; rfl, rfl⟩
    · refine SW.iload_n (q := 1) (i := 1) dX8_beside_0 rfl rfl rfl ?_
      refine SW.aload_n (q := 2) (i := 0) dX8_beside_1 rfl rfl rfl ?_
      refine SW.getI (q := 5) (i := 59) fX8_7 rfl rfl dX8_beside_2 rfl ?_
      refine SW.irem (q := 6) dX8_beside_5 hne rfl ?_
      refine SW.iload_n (q := 7) (i := 2) dX8_beside_6 rfl rfl rfl ?_
      refine SW.iconst (q := 8) (v := 1) dX8_beside_7 (by decide) rfl ?_
      refine SW.icmp_ne (q := 11) (tgt := 15) dX8_beside_8 (by decide) rfl (fun c8 => absurd ((by decide)) c8) (fun _ => ?_)
      refine SW.iconst (q := 12) (v := (-1)) dX8_beside_11 (by decide) rfl ?_
      refine SW.goto (q := 25) dX8_beside_12 (by decide) ?_
      refine SW.iadd (q := 26) dX8_beside_25 rfl ?_
      refine SW.istore_n (q := 27) (i := 3) dX8_beside_26 rfl (by decide) rfl ?_
      refine SW.iload_n (q := 28) (i := 1) dX8_beside_27 rfl rfl rfl ?_
      refine SW.aload_n (q := 29) (i := 0) dX8_beside_28 rfl rfl rfl ?_
      refine SW.getI (q := 32) (i := 59) fX8_7 rfl rfl dX8_beside_29 rfl ?_
      refine SW.idiv (q := 33) dX8_beside_32 hne rfl ?_
      refine SW.iload_n (q := 34) (i := 2) dX8_beside_33 rfl rfl rfl ?_
      refine SW.if_ne (q := 37) (tgt := 41) dX8_beside_34 (by decide) rfl (fun _ => ?_) (fun c34 => absurd c34 ((by decide)))
      refine SW.iload_n (q := 42) (i := 2) dX8_beside_41 rfl rfl rfl ?_
      refine SW.iconst (q := 43) (v := 3) dX8_beside_42 (by decide) rfl ?_
      refine SW.icmp_ne (q := 46) (tgt := 50) dX8_beside_43 (by decide) rfl (fun c43 => ?_) (fun c43 => ?_)
      · refine SW.iconst (q := 51) (v := 0) dX8_beside_50 (by decide) rfl ?_
        refine SW.iadd (q := 52) dX8_beside_51 rfl ?_
        refine SW.istore (q := 54) (i := 4) dX8_beside_52 (by decide) rfl ?_
        refine SW.iload_n (q := 55) (i := 3) dX8_beside_54 rfl rfl rfl ?_
        refine SW.iconst (q := 56) (v := 0) dX8_beside_55 (by decide) rfl ?_
        refine SW.aload_n (q := 57) (i := 0) dX8_beside_56 rfl rfl rfl ?_
        refine SW.getI (q := 60) (i := 59) fX8_7 rfl rfl dX8_beside_57 rfl ?_
        refine SW.iconst (q := 61) (v := 1) dX8_beside_60 (by decide) rfl ?_
        refine SW.isub (q := 62) dX8_beside_61 rfl ?_
        refine SW.sF (q := 65) (C_X8_in) vX8_69 (by decide) rfl rfl (Nat.le_of_ble_eq_true rfl) dX8_beside_62 rfl ?_
        refine SW.if_eq (q := 68) (tgt := 95) dX8_beside_65 (by decide) rfl (fun _ => ?_) (fun c65 => absurd ((by rw [hn, ex, Nat.eq_zero_of_not_pos h, en1]; exact sw_wi_0 (fun h => absurd h.1 (by decide)))) c65)
        refine SW.bipush (q := 97) (v := (-6)) dX8_beside_95 (by decide) rfl ?_
        refine SW.iretR rfl rfl dX8_beside_97 ?_
        exact ⟨by rw [gr_nb, if_neg h]; rfl, rfl⟩
      · refine SW.iconst (q := 47) (v := 1) dX8_beside_46 (by decide) rfl ?_
        refine SW.goto (q := 51) dX8_beside_47 (by decide) ?_
        refine SW.iadd (q := 52) dX8_beside_51 rfl ?_
        refine SW.istore (q := 54) (i := 4) dX8_beside_52 (by decide) rfl ?_
        refine SW.iload_n (q := 55) (i := 3) dX8_beside_54 rfl rfl rfl ?_
        refine SW.iconst (q := 56) (v := 0) dX8_beside_55 (by decide) rfl ?_
        refine SW.aload_n (q := 57) (i := 0) dX8_beside_56 rfl rfl rfl ?_
        refine SW.getI (q := 60) (i := 59) fX8_7 rfl rfl dX8_beside_57 rfl ?_
        refine SW.iconst (q := 61) (v := 1) dX8_beside_60 (by decide) rfl ?_
        refine SW.isub (q := 62) dX8_beside_61 rfl ?_
        refine SW.sF (q := 65) (C_X8_in) vX8_69 (by decide) rfl rfl (Nat.le_of_ble_eq_true rfl) dX8_beside_62 rfl ?_
        refine SW.if_eq (q := 68) (tgt := 95) dX8_beside_65 (by decide) rfl (fun _ => ?_) (fun c65 => absurd ((by rw [hn, ex, Nat.eq_zero_of_not_pos h, en1]; exact sw_wi_0 (fun h => absurd h.1 (by decide)))) c65)
        refine SW.bipush (q := 97) (v := (-6)) dX8_beside_95 (by decide) rfl ?_
        refine SW.iretR rfl rfl dX8_beside_97 ?_
        exact ⟨by rw [gr_nb, if_neg h]; rfl, rfl⟩
  · by_cases h : p % n < n - 1
    · refine SW.iload_n (q := 1) (i := 1) dX8_beside_0 rfl rfl rfl ?_
      refine SW.aload_n (q := 2) (i := 0) dX8_beside_1 rfl rfl rfl ?_
      refine SW.getI (q := 5) (i := 59) fX8_7 rfl rfl dX8_beside_2 rfl ?_
      refine SW.irem (q := 6) dX8_beside_5 hne rfl ?_
      refine SW.iload_n (q := 7) (i := 2) dX8_beside_6 rfl rfl rfl ?_
      refine SW.iconst (q := 8) (v := 1) dX8_beside_7 (by decide) rfl ?_
      refine SW.icmp_ne (q := 11) (tgt := 15) dX8_beside_8 (by decide) rfl (fun _ => ?_) (fun c8 => absurd c8 ((by decide)))
      refine SW.iload_n (q := 16) (i := 2) dX8_beside_15 rfl rfl rfl ?_
      refine SW.iconst (q := 17) (v := 2) dX8_beside_16 (by decide) rfl ?_
      refine SW.icmp_ne (q := 20) (tgt := 24) dX8_beside_17 (by decide) rfl (fun c17 => absurd ((by decide)) c17) (fun _ => ?_)
      refine SW.iconst (q := 21) (v := 1) dX8_beside_20 (by decide) rfl ?_
      refine SW.goto (q := 25) dX8_beside_21 (by decide) ?_
      refine SW.iadd (q := 26) dX8_beside_25 rfl ?_
      refine SW.istore_n (q := 27) (i := 3) dX8_beside_26 rfl (by decide) rfl ?_
      refine SW.iload_n (q := 28) (i := 1) dX8_beside_27 rfl rfl rfl ?_
      refine SW.aload_n (q := 29) (i := 0) dX8_beside_28 rfl rfl rfl ?_
      refine SW.getI (q := 32) (i := 59) fX8_7 rfl rfl dX8_beside_29 rfl ?_
      refine SW.idiv (q := 33) dX8_beside_32 hne rfl ?_
      refine SW.iload_n (q := 34) (i := 2) dX8_beside_33 rfl rfl rfl ?_
      refine SW.if_ne (q := 37) (tgt := 41) dX8_beside_34 (by decide) rfl (fun _ => ?_) (fun c34 => absurd c34 ((by decide)))
      refine SW.iload_n (q := 42) (i := 2) dX8_beside_41 rfl rfl rfl ?_
      refine SW.iconst (q := 43) (v := 3) dX8_beside_42 (by decide) rfl ?_
      refine SW.icmp_ne (q := 46) (tgt := 50) dX8_beside_43 (by decide) rfl (fun _ => ?_) (fun c43 => absurd c43 ((by decide)))
      refine SW.iconst (q := 51) (v := 0) dX8_beside_50 (by decide) rfl ?_
      refine SW.iadd (q := 52) dX8_beside_51 rfl ?_
      refine SW.istore (q := 54) (i := 4) dX8_beside_52 (by decide) rfl ?_
      refine SW.iload_n (q := 55) (i := 3) dX8_beside_54 rfl rfl rfl ?_
      refine SW.iconst (q := 56) (v := 0) dX8_beside_55 (by decide) rfl ?_
      refine SW.aload_n (q := 57) (i := 0) dX8_beside_56 rfl rfl rfl ?_
      refine SW.getI (q := 60) (i := 59) fX8_7 rfl rfl dX8_beside_57 rfl ?_
      refine SW.iconst (q := 61) (v := 1) dX8_beside_60 (by decide) rfl ?_
      refine SW.isub (q := 62) dX8_beside_61 rfl ?_
      refine SW.sF (q := 65) (C_X8_in) vX8_69 (by decide) rfl rfl (Nat.le_of_ble_eq_true rfl) dX8_beside_62 rfl ?_
      refine SW.if_eq (q := 68) (tgt := 95) dX8_beside_65 (by decide) rfl (fun c65 => absurd c65 ((by rw [hn, ex, nI_1, en1]; exact sw_wi_1 (nI_pos' (by omega)) (nI_le (by omega) (by omega))))) (fun _ => ?_)
      refine SW.iload (q := 70) (i := 4) dX8_beside_68 rfl rfl ?_
      refine SW.iconst (q := 71) (v := 0) dX8_beside_70 (by decide) rfl ?_
      refine SW.aload_n (q := 72) (i := 0) dX8_beside_71 rfl rfl rfl ?_
      refine SW.getI (q := 75) (i := 59) fX8_7 rfl rfl dX8_beside_72 rfl ?_
      refine SW.iconst (q := 76) (v := 1) dX8_beside_75 (by decide) rfl ?_
      refine SW.isub (q := 77) dX8_beside_76 rfl ?_
      refine SW.sF (q := 80) (C_X8_in) vX8_69 (by decide) rfl rfl (Nat.le_of_ble_eq_true rfl) dX8_beside_77 rfl ?_
      refine SW.if_eq (q := 83) (tgt := 95) dX8_beside_80 (by decide) rfl (fun c80 => absurd c80 ((by rw [hn, ey, Int32.add_zero, en1]; exact sw_wi_1 (nI_pos' (by omega)) (nI_le (by omega) (by omega))))) (fun _ => ?_)
      refine SW.aload_n (q := 84) (i := 0) dX8_beside_83 rfl rfl rfl ?_
      refine SW.getI (q := 87) (i := 59) fX8_7 rfl rfl dX8_beside_84 rfl ?_
      refine SW.iload (q := 89) (i := 4) dX8_beside_87 rfl rfl ?_
      refine SW.imul (q := 90) dX8_beside_89 rfl ?_
      refine SW.iload_n (q := 91) (i := 3) dX8_beside_90 rfl rfl rfl ?_
      refine SW.iadd (q := 92) dX8_beside_91 rfl ?_
      refine SW.goto (q := 97) dX8_beside_92 (by decide) ?_
      refine SW.iretR rfl rfl dX8_beside_97 ?_
      exact ⟨by rw [hn, ex, ey, Int32.add_zero, nI_1, pk_mul, nI_add, show n * (p / n) + (p % n + 1) = p + 1 by have := gr_pp (n := n) (p := p); omega, gr_nb, if_pos h]; rfl, rfl⟩
    · refine SW.iload_n (q := 1) (i := 1) dX8_beside_0 rfl rfl rfl ?_
      refine SW.aload_n (q := 2) (i := 0) dX8_beside_1 rfl rfl rfl ?_
      refine SW.getI (q := 5) (i := 59) fX8_7 rfl rfl dX8_beside_2 rfl ?_
      refine SW.irem (q := 6) dX8_beside_5 hne rfl ?_
      refine SW.iload_n (q := 7) (i := 2) dX8_beside_6 rfl rfl rfl ?_
      refine SW.iconst (q := 8) (v := 1) dX8_beside_7 (by decide) rfl ?_
      refine SW.icmp_ne (q := 11) (tgt := 15) dX8_beside_8 (by decide) rfl (fun _ => ?_) (fun c8 => absurd c8 ((by decide)))
      refine SW.iload_n (q := 16) (i := 2) dX8_beside_15 rfl rfl rfl ?_
      refine SW.iconst (q := 17) (v := 2) dX8_beside_16 (by decide) rfl ?_
      refine SW.icmp_ne (q := 20) (tgt := 24) dX8_beside_17 (by decide) rfl (fun c17 => absurd ((by decide)) c17) (fun _ => ?_)
      refine SW.iconst (q := 21) (v := 1) dX8_beside_20 (by decide) rfl ?_
      refine SW.goto (q := 25) dX8_beside_21 (by decide) ?_
      refine SW.iadd (q := 26) dX8_beside_25 rfl ?_
      refine SW.istore_n (q := 27) (i := 3) dX8_beside_26 rfl (by decide) rfl ?_
      refine SW.iload_n (q := 28) (i := 1) dX8_beside_27 rfl rfl rfl ?_
      refine SW.aload_n (q := 29) (i := 0) dX8_beside_28 rfl rfl rfl ?_
      refine SW.getI (q := 32) (i := 59) fX8_7 rfl rfl dX8_beside_29 rfl ?_
      refine SW.idiv (q := 33) dX8_beside_32 hne rfl ?_
      refine SW.iload_n (q := 34) (i := 2) dX8_beside_33 rfl rfl rfl ?_
      refine SW.if_ne (q := 37) (tgt := 41) dX8_beside_34 (by decide) rfl (fun _ => ?_) (fun c34 => absurd c34 ((by decide)))
      refine SW.iload_n (q := 42) (i := 2) dX8_beside_41 rfl rfl rfl ?_
      refine SW.iconst (q := 43) (v := 3) dX8_beside_42 (by decide) rfl ?_
      refine SW.icmp_ne (q := 46) (tgt := 50) dX8_beside_43 (by decide) rfl (fun _ => ?_) (fun c43 => absurd c43 ((by decide)))
      refine SW.iconst (q := 51) (v := 0) dX8_beside_50 (by decide) rfl ?_
      refine SW.iadd (q := 52) dX8_beside_51 rfl ?_
      refine SW.istore (q := 54) (i := 4) dX8_beside_52 (by decide) rfl ?_
      refine SW.iload_n (q := 55) (i := 3) dX8_beside_54 rfl rfl rfl ?_
      refine SW.iconst (q := 56) (v := 0) dX8_beside_55 (by decide) rfl ?_
      refine SW.aload_n (q := 57) (i := 0) dX8_beside_56 rfl rfl rfl ?_
      refine SW.getI (q := 60) (i := 59) fX8_7 rfl rfl dX8_beside_57 rfl ?_
      refine SW.iconst (q := 61) (v := 1) dX8_beside_60 (by decide) rfl ?_
      refine SW.isub (q := 62) dX8_beside_61 rfl ?_
      refine SW.sF (q := 65) (C_X8_in) vX8_69 (by decide) rfl rfl (Nat.le_of_ble_eq_true rfl) dX8_beside_62 rfl ?_
      refine SW.if_eq (q := 68) (tgt := 95) dX8_beside_65 (by decide) rfl (fun _ => ?_) (fun c65 => absurd ((by rw [hn, ex, nI_1, en1]; exact sw_wi_0 (fun h => absurd h.2 (nI_ge (by omega) (by omega))))) c65)
      refine SW.bipush (q := 97) (v := (-6)) dX8_beside_95 (by decide) rfl ?_
      refine SW.iretR rfl rfl dX8_beside_97 ?_
      exact ⟨by rw [gr_nb, if_neg h]; rfl, rfl⟩
  · by_cases h : p / n < n - 1
    · refine SW.iload_n (q := 1) (i := 1) dX8_beside_0 rfl rfl rfl ?_
      refine SW.aload_n (q := 2) (i := 0) dX8_beside_1 rfl rfl rfl ?_
      refine SW.getI (q := 5) (i := 59) fX8_7 rfl rfl dX8_beside_2 rfl ?_
      refine SW.irem (q := 6) dX8_beside_5 hne rfl ?_
      refine SW.iload_n (q := 7) (i := 2) dX8_beside_6 rfl rfl rfl ?_
      refine SW.iconst (q := 8) (v := 1) dX8_beside_7 (by decide) rfl ?_
      refine SW.icmp_ne (q := 11) (tgt := 15) dX8_beside_8 (by decide) rfl (fun _ => ?_) (fun c8 => absurd c8 ((by decide)))
      refine SW.iload_n (q := 16) (i := 2) dX8_beside_15 rfl rfl rfl ?_
      refine SW.iconst (q := 17) (v := 2) dX8_beside_16 (by decide) rfl ?_
      refine SW.icmp_ne (q := 20) (tgt := 24) dX8_beside_17 (by decide) rfl (fun _ => ?_) (fun c17 => absurd c17 ((by decide)))
      refine SW.iconst (q := 25) (v := 0) dX8_beside_24 (by decide) rfl ?_
      refine SW.iadd (q := 26) dX8_beside_25 rfl ?_
      refine SW.istore_n (q := 27) (i := 3) dX8_beside_26 rfl (by decide) rfl ?_
      refine SW.iload_n (q := 28) (i := 1) dX8_beside_27 rfl rfl rfl ?_
      refine SW.aload_n (q := 29) (i := 0) dX8_beside_28 rfl rfl rfl ?_
      refine SW.getI (q := 32) (i := 59) fX8_7 rfl rfl dX8_beside_29 rfl ?_
      refine SW.idiv (q := 33) dX8_beside_32 hne rfl ?_
      refine SW.iload_n (q := 34) (i := 2) dX8_beside_33 rfl rfl rfl ?_
      refine SW.if_ne (q := 37) (tgt := 41) dX8_beside_34 (by decide) rfl (fun _ => ?_) (fun c34 => absurd c34 ((by decide)))
      refine SW.iload_n (q := 42) (i := 2) dX8_beside_41 rfl rfl rfl ?_
      refine SW.iconst (q := 43) (v := 3) dX8_beside_42 (by decide) rfl ?_
      refine SW.icmp_ne (q := 46) (tgt := 50) dX8_beside_43 (by decide) rfl (fun c43 => absurd ((by decide)) c43) (fun _ => ?_)
      refine SW.iconst (q := 47) (v := 1) dX8_beside_46 (by decide) rfl ?_
      refine SW.goto (q := 51) dX8_beside_47 (by decide) ?_
      refine SW.iadd (q := 52) dX8_beside_51 rfl ?_
      refine SW.istore (q := 54) (i := 4) dX8_beside_52 (by decide) rfl ?_
      refine SW.iload_n (q := 55) (i := 3) dX8_beside_54 rfl rfl rfl ?_
      refine SW.iconst (q := 56) (v := 0) dX8_beside_55 (by decide) rfl ?_
      refine SW.aload_n (q := 57) (i := 0) dX8_beside_56 rfl rfl rfl ?_
      refine SW.getI (q := 60) (i := 59) fX8_7 rfl rfl dX8_beside_57 rfl ?_
      refine SW.iconst (q := 61) (v := 1) dX8_beside_60 (by decide) rfl ?_
      refine SW.isub (q := 62) dX8_beside_61 rfl ?_
      refine SW.sF (q := 65) (C_X8_in) vX8_69 (by decide) rfl rfl (Nat.le_of_ble_eq_true rfl) dX8_beside_62 rfl ?_
      refine SW.if_eq (q := 68) (tgt := 95) dX8_beside_65 (by decide) rfl (fun c65 => absurd c65 ((by rw [hn, ex, Int32.add_zero, en1]; exact sw_wi_1 (nI_pos' (by omega)) (nI_le (by omega) (by omega))))) (fun _ => ?_)
      refine SW.iload (q := 70) (i := 4) dX8_beside_68 rfl rfl ?_
      refine SW.iconst (q := 71) (v := 0) dX8_beside_70 (by decide) rfl ?_
      refine SW.aload_n (q := 72) (i := 0) dX8_beside_71 rfl rfl rfl ?_
      refine SW.getI (q := 75) (i := 59) fX8_7 rfl rfl dX8_beside_72 rfl ?_
      refine SW.iconst (q := 76) (v := 1) dX8_beside_75 (by decide) rfl ?_
      refine SW.isub (q := 77) dX8_beside_76 rfl ?_
      refine SW.sF (q := 80) (C_X8_in) vX8_69 (by decide) rfl rfl (Nat.le_of_ble_eq_true rfl) dX8_beside_77 rfl ?_
      refine SW.if_eq (q := 83) (tgt := 95) dX8_beside_80 (by decide) rfl (fun c80 => absurd c80 ((by rw [hn, ey, nI_1, en1]; exact sw_wi_1 (nI_pos' (by omega)) (nI_le (by omega) (by omega))))) (fun _ => ?_)
      refine SW.aload_n (q := 84) (i := 0) dX8_beside_83 rfl rfl rfl ?_
      refine SW.getI (q := 87) (i := 59) fX8_7 rfl rfl dX8_beside_84 rfl ?_
      refine SW.iload (q := 89) (i := 4) dX8_beside_87 rfl rfl ?_
      refine SW.imul (q := 90) dX8_beside_89 rfl ?_
      refine SW.iload_n (q := 91) (i := 3) dX8_beside_90 rfl rfl rfl ?_
      refine SW.iadd (q := 92) dX8_beside_91 rfl ?_
      refine SW.goto (q := 97) dX8_beside_92 (by decide) ?_
      refine SW.iretR rfl rfl dX8_beside_97 ?_
      exact ⟨by rw [hn, ex, ey, Int32.add_zero, nI_1, pk_mul, nI_add, show n * (p / n + 1) + p % n = p + n by have := gr_pp (n := n) (p := p); rw [Nat.mul_add, Nat.mul_one]; omega, gr_nb, if_pos h]; rfl, rfl⟩
    · refine SW.iload_n (q := 1) (i := 1) dX8_beside_0 rfl rfl rfl ?_
      refine SW.aload_n (q := 2) (i := 0) dX8_beside_1 rfl rfl rfl ?_
      refine SW.getI (q := 5) (i := 59) fX8_7 rfl rfl dX8_beside_2 rfl ?_
      refine SW.irem (q := 6) dX8_beside_5 hne rfl ?_
      refine SW.iload_n (q := 7) (i := 2) dX8_beside_6 rfl rfl rfl ?_
      refine SW.iconst (q := 8) (v := 1) dX8_beside_7 (by decide) rfl ?_
      refine SW.icmp_ne (q := 11) (tgt := 15) dX8_beside_8 (by decide) rfl (fun _ => ?_) (fun c8 => absurd c8 ((by decide)))
      refine SW.iload_n (q := 16) (i := 2) dX8_beside_15 rfl rfl rfl ?_
      refine SW.iconst (q := 17) (v := 2) dX8_beside_16 (by decide) rfl ?_
      refine SW.icmp_ne (q := 20) (tgt := 24) dX8_beside_17 (by decide) rfl (fun _ => ?_) (fun c17 => absurd c17 ((by decide)))
      refine SW.iconst (q := 25) (v := 0) dX8_beside_24 (by decide) rfl ?_
      refine SW.iadd (q := 26) dX8_beside_25 rfl ?_
      refine SW.istore_n (q := 27) (i := 3) dX8_beside_26 rfl (by decide) rfl ?_
      refine SW.iload_n (q := 28) (i := 1) dX8_beside_27 rfl rfl rfl ?_
      refine SW.aload_n (q := 29) (i := 0) dX8_beside_28 rfl rfl rfl ?_
      refine SW.getI (q := 32) (i := 59) fX8_7 rfl rfl dX8_beside_29 rfl ?_
      refine SW.idiv (q := 33) dX8_beside_32 hne rfl ?_
      refine SW.iload_n (q := 34) (i := 2) dX8_beside_33 rfl rfl rfl ?_
      refine SW.if_ne (q := 37) (tgt := 41) dX8_beside_34 (by decide) rfl (fun _ => ?_) (fun c34 => absurd c34 ((by decide)))
      refine SW.iload_n (q := 42) (i := 2) dX8_beside_41 rfl rfl rfl ?_
      refine SW.iconst (q := 43) (v := 3) dX8_beside_42 (by decide) rfl ?_
      refine SW.icmp_ne (q := 46) (tgt := 50) dX8_beside_43 (by decide) rfl (fun c43 => absurd ((by decide)) c43) (fun _ => ?_)
      refine SW.iconst (q := 47) (v := 1) dX8_beside_46 (by decide) rfl ?_
      refine SW.goto (q := 51) dX8_beside_47 (by decide) ?_
      refine SW.iadd (q := 52) dX8_beside_51 rfl ?_
      refine SW.istore (q := 54) (i := 4) dX8_beside_52 (by decide) rfl ?_
      refine SW.iload_n (q := 55) (i := 3) dX8_beside_54 rfl rfl rfl ?_
      refine SW.iconst (q := 56) (v := 0) dX8_beside_55 (by decide) rfl ?_
      refine SW.aload_n (q := 57) (i := 0) dX8_beside_56 rfl rfl rfl ?_
      refine SW.getI (q := 60) (i := 59) fX8_7 rfl rfl dX8_beside_57 rfl ?_
      refine SW.iconst (q := 61) (v := 1) dX8_beside_60 (by decide) rfl ?_
      refine SW.isub (q := 62) dX8_beside_61 rfl ?_
      refine SW.sF (q := 65) (C_X8_in) vX8_69 (by decide) rfl rfl (Nat.le_of_ble_eq_true rfl) dX8_beside_62 rfl ?_
      refine SW.if_eq (q := 68) (tgt := 95) dX8_beside_65 (by decide) rfl (fun c65 => absurd c65 ((by rw [hn, ex, Int32.add_zero, en1]; exact sw_wi_1 (nI_pos' (by omega)) (nI_le (by omega) (by omega))))) (fun _ => ?_)
      refine SW.iload (q := 70) (i := 4) dX8_beside_68 rfl rfl ?_
      refine SW.iconst (q := 71) (v := 0) dX8_beside_70 (by decide) rfl ?_
      refine SW.aload_n (q := 72) (i := 0) dX8_beside_71 rfl rfl rfl ?_
      refine SW.getI (q := 75) (i := 59) fX8_7 rfl rfl dX8_beside_72 rfl ?_
      refine SW.iconst (q := 76) (v := 1) dX8_beside_75 (by decide) rfl ?_
      refine SW.isub (q := 77) dX8_beside_76 rfl ?_
      refine SW.sF (q := 80) (C_X8_in) vX8_69 (by decide) rfl rfl (Nat.le_of_ble_eq_true rfl) dX8_beside_77 rfl ?_
      refine SW.if_eq (q := 83) (tgt := 95) dX8_beside_80 (by decide) rfl (fun _ => ?_) (fun c80 => absurd ((by rw [hn, ey, nI_1, en1]; exact sw_wi_0 (fun h => absurd h.2 (nI_ge (by omega) (by omega))))) c80)
      refine SW.bipush (q := 97) (v := (-6)) dX8_beside_95 (by decide) rfl ?_
      refine SW.iretR rfl rfl dX8_beside_97 ?_
      exact ⟨by rw [gr_nb, if_neg h]; rfl, rfl⟩
theorem C_X8_isRim (hM : gr_M σ n) (hx : x = nI p) (hp : p < n * n) : sw_F X 0 mX8_isRim [.ref (sw_ad X 59), .int x] σ (sw_b (gr_rim n p)) σ := by
  subst hx
  obtain ⟨n4, n24, hn⟩ := hM
  have h576 := gr_576 n24
  obtain ⟨l1, l2, l3⟩ := gr_lt hp
  have ex : nI p - nI p / nI n * nI n = nI (p % n) := pk_rem (by omega) l3 (by omega)
  have ey : nI p / nI n = nI (p / n) := pk_div (by omega) l3 (by omega)
  have en1 : nI n - 1 = nI (n - 1) := nI_pr l3
  have hne : ¬ σ 59 1 = 0 := by rw [hn]; exact nI_ne0 l3 (by omega)
  have z1 : nI (p % n) = 0 ↔ p % n = 0 := nI_eq (b := 0) (by omega) (by omega)
  have z2 : nI (p / n) = 0 ↔ p / n = 0 := nI_eq (b := 0) (by omega) (by omega)
  have z3 : nI (p % n) = nI (n - 1) ↔ p % n = n - 1 := nI_eq (by omega) (by omega)
  have z4 : nI (p / n) = nI (n - 1) ↔ p / n = n - 1 := nI_eq (by omega) (by omega)
  refine sw_ME.ofF (by decide +kernel) rfl (Nat.le_of_ble_eq_true rfl) rfl ?_
  refine SW.iload_n (q := 1) (i := 1) dX8_isRim_0 rfl rfl rfl ?_
  refine SW.aload_n (q := 2) (i := 0) dX8_isRim_1 rfl rfl rfl ?_
  refine SW.getI (q := 5) (i := 59) fX8_7 rfl rfl dX8_isRim_2 rfl ?_
  refine SW.irem (q := 6) dX8_isRim_5 hne rfl ?_
  refine SW.istore_n (q := 7) (i := 2) dX8_isRim_6 rfl (by decide) rfl ?_
  refine SW.iload_n (q := 8) (i := 1) dX8_isRim_7 rfl rfl rfl ?_
  refine SW.aload_n (q := 9) (i := 0) dX8_isRim_8 rfl rfl rfl ?_
  refine SW.getI (q := 12) (i := 59) fX8_7 rfl rfl dX8_isRim_9 rfl ?_
  refine SW.idiv (q := 13) dX8_isRim_12 hne rfl ?_
  refine SW.istore_n (q := 14) (i := 3) dX8_isRim_13 rfl (by decide) rfl ?_
  refine SW.iload_n (q := 15) (i := 2) dX8_isRim_14 rfl rfl rfl ?_
  refine SW.if_eq (q := 18) (tgt := 42) dX8_isRim_15 (by decide) rfl (fun c15 => ?_) (fun c15 => ?_)
  · refine SW.iconst (q := 43) (v := 1) dX8_isRim_42 (by decide) rfl ?_
    refine SW.goto (q := 47) dX8_isRim_43 (by decide) ?_
    refine SW.iretR rfl rfl dX8_isRim_47 ?_
    refine ⟨?_, rfl⟩
    simp only [hn] at *
    simp only [ex] at *
    simp only [ey, en1, z1, z2, z3, z4] at *
    simp [gr_rim, sw_b, *]
  · refine SW.iload_n (q := 19) (i := 3) dX8_isRim_18 rfl rfl rfl ?_
    refine SW.if_eq (q := 22) (tgt := 42) dX8_isRim_19 (by decide) rfl (fun c19 => ?_) (fun c19 => ?_)
    · refine SW.iconst (q := 43) (v := 1) dX8_isRim_42 (by decide) rfl ?_
      refine SW.goto (q := 47) dX8_isRim_43 (by decide) ?_
      refine SW.iretR rfl rfl dX8_isRim_47 ?_
      refine ⟨?_, rfl⟩
      simp only [hn] at *
      simp only [ex] at *
      simp only [ey, en1, z1, z2, z3, z4] at *
      simp [gr_rim, sw_b, *]
    · refine SW.iload_n (q := 23) (i := 2) dX8_isRim_22 rfl rfl rfl ?_
      refine SW.aload_n (q := 24) (i := 0) dX8_isRim_23 rfl rfl rfl ?_
      refine SW.getI (q := 27) (i := 59) fX8_7 rfl rfl dX8_isRim_24 rfl ?_
      refine SW.iconst (q := 28) (v := 1) dX8_isRim_27 (by decide) rfl ?_
      refine SW.isub (q := 29) dX8_isRim_28 rfl ?_
      refine SW.icmp_eq (q := 32) (tgt := 42) dX8_isRim_29 (by decide) rfl (fun c29 => ?_) (fun c29 => ?_)
      · refine SW.iconst (q := 43) (v := 1) dX8_isRim_42 (by decide) rfl ?_
        refine SW.goto (q := 47) dX8_isRim_43 (by decide) ?_
        refine SW.iretR rfl rfl dX8_isRim_47 ?_
        refine ⟨?_, rfl⟩
        simp only [hn] at *
        simp only [ex] at *
        simp only [ey, en1, z1, z2, z3, z4] at *
        simp [gr_rim, sw_b, *]
      · refine SW.iload_n (q := 33) (i := 3) dX8_isRim_32 rfl rfl rfl ?_
        refine SW.aload_n (q := 34) (i := 0) dX8_isRim_33 rfl rfl rfl ?_
        refine SW.getI (q := 37) (i := 59) fX8_7 rfl rfl dX8_isRim_34 rfl ?_
        refine SW.iconst (q := 38) (v := 1) dX8_isRim_37 (by decide) rfl ?_
        refine SW.isub (q := 39) dX8_isRim_38 rfl ?_
        refine SW.icmp_ne (q := 42) (tgt := 46) dX8_isRim_39 (by decide) rfl (fun c39 => ?_) (fun c39 => ?_)
        · refine SW.iconst (q := 47) (v := 0) dX8_isRim_46 (by decide) rfl ?_
          refine SW.iretR rfl rfl dX8_isRim_47 ?_
          refine ⟨?_, rfl⟩
          simp only [hn] at *
          simp only [ex] at *
          simp only [ey, en1, z1, z2, z3, z4] at *
          simp [gr_rim, sw_b, *]
        · refine SW.iconst (q := 43) (v := 1) dX8_isRim_42 (by decide) rfl ?_
          refine SW.goto (q := 47) dX8_isRim_43 (by decide) ?_
          refine SW.iretR rfl rfl dX8_isRim_47 ?_
          refine ⟨?_, rfl⟩
          simp only [hn] at *
          simp only [ex] at *
          simp only [ey, en1, z1, z2, z3, z4] at *
          simp [gr_rim, sw_b, *]
theorem C_X8_isSea (hx : x = nI p) (hp : p < 576) : sw_F X 0 mX8_isSea [.ref (sw_ad X 59), .int x] σ (sw_b (decide (σ 64 p < σ 60 0))) σ := by
  subst hx
  refine sw_ME.ofF (by decide +kernel) rfl (Nat.le_of_ble_eq_true rfl) rfl ?_
  refine SW.aload_n (q := 1) (i := 0) dX8_isSea_0 rfl rfl rfl ?_
  refine SW.getR (q := 4) (i := 59) (j := 64) fX8_26 rfl rfl dX8_isSea_1 rfl ?_
  refine SW.iload_n (q := 5) (i := 1) dX8_isSea_4 rfl rfl rfl ?_
  refine SW.ialdN (q := 6) (k := p) rfl (rfl) (by omega) (by decide) dX8_isSea_5 rfl ?_
  refine SW.aload_n (q := 7) (i := 0) dX8_isSea_6 rfl rfl rfl ?_
  refine SW.getR (q := 10) (i := 59) (j := 60) fX8_13 rfl rfl dX8_isSea_7 rfl ?_
  refine SW.iconst (q := 11) (v := 0) dX8_isSea_10 (by decide) rfl ?_
  refine SW.ialdN (q := 12) (k := 0) rfl (rfl) (by decide) (by decide) dX8_isSea_11 rfl ?_
  refine SW.icmp_ge (q := 15) (tgt := 19) dX8_isSea_12 (by decide) rfl (fun c12 => ?_) (fun c12 => ?_)
  · refine SW.iconst (q := 20) (v := 0) dX8_isSea_19 (by decide) rfl ?_
    refine SW.iretR rfl rfl dX8_isSea_20 ?_
    refine ⟨?_, rfl⟩
    first
    | (rw [decide_eq_true (p := σ 64 p < σ 60 0) (Int32.not_le.mp c12)]; rfl)
    | (rw [decide_eq_false (p := σ 64 p < σ 60 0) (Int32.not_lt.mpr c12)]; rfl)
  · refine SW.iconst (q := 16) (v := 1) dX8_isSea_15 (by decide) rfl ?_
    refine SW.goto (q := 20) dX8_isSea_16 (by decide) ?_
    refine SW.iretR rfl rfl dX8_isSea_20 ?_
    refine ⟨?_, rfl⟩
    first
    | (rw [decide_eq_true (p := σ 64 p < σ 60 0) (Int32.not_le.mp c12)]; rfl)
    | (rw [decide_eq_false (p := σ 64 p < σ 60 0) (Int32.not_lt.mpr c12)]; rfl)
theorem C_X8_water (hx : x = nI p) (hp : p < 576) (hy : y = nI q) (hq : q < 576) : sw_F X 0 mX8_water [.ref (sw_ad X 59), .int x, .int y] σ (if σ 65 q ≤ σ 64 p then σ 64 p else σ 65 q) σ := by
  subst hx; subst hy
  refine sw_ME.ofF (by decide +kernel) rfl (Nat.le_of_ble_eq_true rfl) rfl ?_
  refine SW.aload_n (q := 1) (i := 0) dX8_water_0 rfl rfl rfl ?_
  refine SW.getR (q := 4) (i := 59) (j := 65) fX8_29 rfl rfl dX8_water_1 rfl ?_
  refine SW.iload_n (q := 5) (i := 2) dX8_water_4 rfl rfl rfl ?_
  refine SW.ialdN (q := 6) (k := q) rfl (rfl) (by omega) (by decide) dX8_water_5 rfl ?_
  refine SW.aload_n (q := 7) (i := 0) dX8_water_6 rfl rfl rfl ?_
  refine SW.getR (q := 10) (i := 59) (j := 64) fX8_26 rfl rfl dX8_water_7 rfl ?_
  refine SW.iload_n (q := 11) (i := 1) dX8_water_10 rfl rfl rfl ?_
  refine SW.ialdN (q := 12) (k := p) rfl (rfl) (by omega) (by decide) dX8_water_11 rfl ?_
  refine SW.icmp_le (q := 15) (tgt := 24) dX8_water_12 (by decide) rfl (fun c12 => ?_) (fun c12 => ?_)
  · refine SW.aload_n (q := 25) (i := 0) dX8_water_24 rfl rfl rfl ?_
    refine SW.getR (q := 28) (i := 59) (j := 64) fX8_26 rfl rfl dX8_water_25 rfl ?_
    refine SW.iload_n (q := 29) (i := 1) dX8_water_28 rfl rfl rfl ?_
    refine SW.ialdN (q := 30) (k := p) rfl (rfl) (by omega) (by decide) dX8_water_29 rfl ?_
    refine SW.iretR rfl rfl dX8_water_30 ?_
    refine ⟨?_, rfl⟩
    first
    | (rw [if_pos c12]; done)
    | (rw [if_neg c12]; done)
  · refine SW.aload_n (q := 16) (i := 0) dX8_water_15 rfl rfl rfl ?_
    refine SW.getR (q := 19) (i := 59) (j := 65) fX8_29 rfl rfl dX8_water_16 rfl ?_
    refine SW.iload_n (q := 20) (i := 2) dX8_water_19 rfl rfl rfl ?_
    refine SW.ialdN (q := 21) (k := q) rfl (rfl) (by omega) (by decide) dX8_water_20 rfl ?_
    refine SW.goto (q := 30) dX8_water_21 (by decide) ?_
    refine SW.iretR rfl rfl dX8_water_30 ?_
    refine ⟨?_, rfl⟩
    first
    | (rw [if_pos c12]; done)
    | (rw [if_neg c12]; done)
theorem C_X8_take {k : Nat} (hx : x = nI p) (hp : p < 576) (hk : σ 59 18 = nI k) (hk5 : k < 576) : sw_G X 0 mX8_take [.ref (sw_ad X 59), .int x, .int y, .int v] σ (sw_up (sw_up (sw_up (sw_up (sw_up σ 65 p y) 66 p v) 67 p (nI k)) 68 k (nI p)) 59 18 (nI (k + 1))) := by
  subst hx
  refine sw_ME.ofF (by decide +kernel) rfl (Nat.le_of_ble_eq_true rfl) rfl ?_
  refine SW.aload_n (q := 1) (i := 0) dX8_take_0 rfl rfl rfl ?_
  refine SW.getR (q := 4) (i := 59) (j := 65) fX8_29 rfl rfl dX8_take_1 rfl ?_
  refine SW.iload_n (q := 5) (i := 1) dX8_take_4 rfl rfl rfl ?_
  refine SW.iload_n (q := 6) (i := 2) dX8_take_5 rfl rfl rfl ?_
  refine SW.iastN (q := 7) (k := p) rfl (rfl) (by omega) (by decide) dX8_take_6 rfl ?_
  refine SW.aload_n (q := 8) (i := 0) dX8_take_7 rfl rfl rfl ?_
  refine SW.getR (q := 11) (i := 59) (j := 66) fX8_32 rfl rfl dX8_take_8 rfl ?_
  refine SW.iload_n (q := 12) (i := 1) dX8_take_11 rfl rfl rfl ?_
  refine SW.iload_n (q := 13) (i := 3) dX8_take_12 rfl rfl rfl ?_
  refine SW.iastN (q := 14) (k := p) rfl (rfl) (by omega) (by decide) dX8_take_13 rfl ?_
  refine SW.aload_n (q := 15) (i := 0) dX8_take_14 rfl rfl rfl ?_
  refine SW.getR (q := 18) (i := 59) (j := 67) fX8_35 rfl rfl dX8_take_15 rfl ?_
  refine SW.iload_n (q := 19) (i := 1) dX8_take_18 rfl rfl rfl ?_
  refine SW.aload_n (q := 20) (i := 0) dX8_take_19 rfl rfl rfl ?_
  refine SW.getI (q := 23) (i := 59) fX8_111 rfl rfl dX8_take_20 rfl ?_
  refine SW.iastN (q := 24) (k := p) rfl (rfl) (by omega) (by decide) dX8_take_23 rfl ?_
  refine SW.aload_n (q := 25) (i := 0) dX8_take_24 rfl rfl rfl ?_
  refine SW.getR (q := 28) (i := 59) (j := 68) fX8_38 rfl rfl dX8_take_25 rfl ?_
  refine SW.aload_n (q := 29) (i := 0) dX8_take_28 rfl rfl rfl ?_
  refine SW.getI (q := 32) (i := 59) fX8_111 rfl rfl dX8_take_29 rfl ?_
  refine SW.iload_n (q := 33) (i := 1) dX8_take_32 rfl rfl rfl ?_
  refine SW.iastN (q := 34) (k := k) rfl (hk) (by omega) (by decide) dX8_take_33 rfl ?_
  refine SW.aload_n (q := 35) (i := 0) dX8_take_34 rfl rfl rfl ?_
  refine SW.dup (q := 36) dX8_take_35 rfl rfl ?_
  refine SW.getI (q := 39) (i := 59) fX8_111 rfl rfl dX8_take_36 rfl ?_
  refine SW.iconst (q := 40) (v := 1) dX8_take_39 (by decide) rfl ?_
  refine SW.iadd (q := 41) dX8_take_40 rfl ?_
  refine SW.putI (q := 44) (i := 59) pX8_111 rfl rfl dX8_take_41 rfl ?_
  refine SW.vretR rfl dX8_take_44 ?_
  show _ = _
  rw [← nI_1, ← hk]
  rfl
end MTERR
