/-! COSTS in the class: from a town to all places -/
section NFIND
variable {X : sw_X} {σ : sw_Sg} {x y v w st : Int32} {n p q br r s t M c : Nat} {h : Nat → Nat} {kd : Nat → Int32} {S : Nat → Prop} {d : Nat → Option Nat}
def nt_d0 (s v : Nat) : Option Nat := if v = s then some 0 else none
theorem nt_d0_i {s : Nat} : nt_d0 s s = some 0 := if_pos rfl
theorem nt_d0_o {s v : Nat} (z : ¬ v = s) : nt_d0 s v = none := if_neg z
theorem C_X1_findCosts (hG : ww_G n h σ) (hkd : σ 48 = kd) (hb : σ 5 4 = nI br) (b100 : br ≤ 100) (ht6 : t < 6) (hs : s < n * n) :
    sw_Mv X 3 mX1_findCosts [.ref (sw_ad X 5), .ref (sw_ad X 1), .ref (sw_ad X 2), .ref (sw_ad X 6), .int (nI t), .int (nI s)] σ (fun u => fr_ [6, 54, 58] σ u ∧ nt_blk t σ u ∧ ∃ d, nt_ok n h kd br s d ∧ nt_lab n t d u) := by
  have n24 : n ≤ 24 := hG.1.2.1
  have h576 := gr_576 n24
  have hpl : σ 1 2 = nI (n * n) := hG.1.2.2.2.1
  refine sw_ME.ofF (by decide +kernel) rfl (Nat.le_of_ble_eq_true rfl) rfl ?_
  have loop : ∀ (k i : Nat), i + k = 2308 → ∀ (A B : Value) (τ : sw_Sg) (K c r : Nat) (Z : Nat → Nat) (d : Nat → Option Nat), fr_ [6, 54, 58] σ τ → nt_blk t σ τ → nt_lab n t d τ → (∀ i, i < K → Z i < n * n) → (∀ i j, i < K → j < K → Z i = Z j → i = j) → nt_C n h kd br s (wt_tk Z K) d r (510 * K) → nt_Hp n (wt_tk Z K) d r (510 * K) c τ → (∀ u, wt_tk Z K u → nt_cl n h kd br d u) → i + c ≤ 4 * K + 1 →
      SW X 3 mX1_findCosts sw_E0 (sw_Rv (fun u => fr_ [6, 54, 58] σ u ∧ nt_blk t σ u ∧ ∃ d, nt_ok n h kd br s d ∧ nt_lab n t d u)) 67 [.ref (sw_ad X 5), .ref (sw_ad X 1), .ref (sw_ad X 2), .ref (sw_ad X 6), .int (nI t), .int (nI s), .int (nI (576 * t)), .int (nI i), A, B] [] τ := by
    intro k
    induction k with
    | zero =>
      intro i hik A B τ K c r Z d hf hbk hlab hZ hZi hC hH hcl hic
      have hK : K ≤ n * n := inj_le hZ hZi
      omega
    | succ k ih =>
      intro i hik A B τ K c r Z d hf hbk hlab hZ hZi hC hH hcl hic
      have hK : K ≤ n * n := inj_le hZ hZi
      obtain ⟨g1, g2, g3, g4⟩ := hH
      have hG1 := hG.fr hf (by decide) (by decide) (by decide) (by decide)
      by_cases hc0 : c = 0
      · subst hc0
        refine SW.iload (q := 69) (i := 7) dX1_findCosts_67 rfl rfl ?_
        refine SW.sipush (q := 72) (v := 2308) dX1_findCosts_69 (by decide) rfl ?_
        refine SW.icmp_ge (q := 75) (tgt := 128) dX1_findCosts_72 (by decide) rfl (fun c72 => absurd c72 ((nI_ge (a := i) (b := 2308) (by omega) (by omega)))) (fun _ => ?_)
        refine SW.aload_n (q := 76) (i := 3) dX1_findCosts_75 rfl rfl rfl ?_
        refine SW.cR (q := 79) (C_X0_remove (c := 0) g1 (by omega) g2) vX1_86 (by decide) rfl rfl rfl rfl (Nat.le_of_ble_eq_true rfl) dX1_findCosts_76 rfl (fun v76 u76 r76 => ?_)
        rcases r76 with ⟨-, rfl, rfl⟩ | ⟨z, -⟩
        rotate_left
        · exact absurd z (Nat.lt_irrefl _)
        refine SW.if_eq (q := 82) (tgt := 128) dX1_findCosts_79 (by decide) rfl (fun _ => ?_) (fun c79 => absurd (rfl) c79)
        refine SW.vretR rfl dX1_findCosts_128 ?_
        refine ⟨hf, hbk, d, ⟨hC.1, fun v c e => ?_, fun u c v e ha hp => ?_⟩, hlab⟩
        · obtain ⟨a1, a2, a3⟩ := hC.2.1 v c e
          exact ⟨a1, by omega, a3⟩
        · by_cases hu : wt_tk Z K u
          · exact hcl u hu c v e ha hp
          · obtain ⟨j, j1, -⟩ := g4 u c e hu
            exact absurd j1 (Nat.not_lt_zero _)
      · obtain ⟨ρ, q, c0, q1, q2, q3, q4, q5, q6⟩ := g3 (τ 58 0) ⟨0, by omega, rfl⟩
        have hmin : ∀ z, hp_in (τ 58) c z → (τ 58 0).toInt ≤ z.toInt := by
          rintro z ⟨j, j1, rfl⟩
          exact hp_min g2 j j1
        have low : ∀ v c1, d v = some c1 → ¬ wt_tk Z K v → ρ ≤ c1 := by
          intro v c1 e hv
          have a := hmin _ (g4 v c1 e hv)
          have b := hC.2.1 v c1 e
          rw [q3] at a
          have := wl_key_le (by omega) (by omega) (by omega) (by omega) a
          omega
        -- the heap behind the taking out
        have drop : ∀ u, fr_ [6, 58] τ u → u 6 1 = nI (c - 1) → hp_ok (u 58) (c - 1) → (∀ z, hp_in (u 58) (c - 1) z → hp_in (τ 58) c z) → (∀ z, hp_in (τ 58) c z → z = τ 58 0 ∨ hp_in (u 58) (c - 1) z) → ∀ (S' : Nat → Prop) (M : Nat), 510 * K ≤ M → M ≤ 300000 → (∀ v, wt_tk Z K v → S' v) → (S' q ∨ ¬ ρ = c0) → nt_Hp n S' d ρ M (c - 1) u := by
          intro u f1 u1 u2 u3 u4 S' M hM hM3 hS hq
          refine ⟨u1, u2, fun z hz => ?_, fun v c1 e hv => ?_⟩
          · obtain ⟨ρ', v, c1, a1, a2, a3, a4, a5, a6⟩ := g3 z (u3 z hz)
            have a := hmin z (u3 z hz)
            rw [q3, a3] at a
            have := wl_key_le (by omega) (by omega) (by omega) (by omega) a
            exact ⟨ρ', v, c1, by omega, a2, a3, a4, a5, by omega⟩
          · have hv2 : ¬ wt_tk Z K v := fun z => hv (hS v z)
            refine (u4 _ (g4 v c1 e hv2)).resolve_left (fun z => ?_)
            have b := hC.2.1 v c1 e
            rw [q3] at z
            obtain ⟨z1, z2⟩ := wl_key_inj (by omega) (by omega) (by omega) (by omega) z
            subst z2
            rw [q4] at e; cases e
            rcases hq with z3 | z3
            · exact hv z3
            · exact z3 z1.symm
        by_cases hρ : ρ = c0
        · subst hρ
          by_cases hqS : wt_tk Z K q
          · have hr : r = ρ := by
              obtain ⟨c1, e1, l1⟩ := hC.2.2.1 q hqS
              rw [q4] at e1; cases e1
              omega
            have hC2 : nt_C n h kd br s (wt_tk Z K) d ρ (510 * K) := by rw [← hr]; exact hC
            refine SW.iload (q := 69) (i := 7) dX1_findCosts_67 rfl rfl ?_
            refine SW.sipush (q := 72) (v := 2308) dX1_findCosts_69 (by decide) rfl ?_
            refine SW.icmp_ge (q := 75) (tgt := 128) dX1_findCosts_72 (by decide) rfl (fun c72 => absurd c72 ((nI_ge (a := i) (b := 2308) (by omega) (by omega)))) (fun _ => ?_)
            refine SW.aload_n (q := 76) (i := 3) dX1_findCosts_75 rfl rfl rfl ?_
            refine SW.cR (q := 79) (C_X0_remove (c := c) g1 (by omega) g2) vX1_86 (by decide) rfl rfl rfl rfl (Nat.le_of_ble_eq_true rfl) dX1_findCosts_76 rfl (fun v76 u76 r76 => ?_)
            rcases r76 with ⟨z, -⟩ | ⟨z, rfl, f1, u1, u0, u2, u3, u4⟩
            · exact absurd z hc0
            refine SW.if_eq (q := 82) (tgt := 128) dX1_findCosts_79 (by decide) rfl (fun c79 => absurd c79 ((by decide))) (fun _ => ?_)
            refine SW.aload_n (q := 83) (i := 3) dX1_findCosts_82 rfl rfl rfl ?_
            refine SW.cF (q := 86) (C_X0_removedPlace) vX1_90 (by decide) rfl rfl rfl rfl (Nat.le_of_ble_eq_true rfl) dX1_findCosts_83 rfl ?_
            rw [u0, q3, wl_key_q (by omega) (by omega)]
            refine SW.istore (q := 88) (i := 8) dX1_findCosts_86 (by decide) rfl ?_
            refine SW.aload_n (q := 89) (i := 3) dX1_findCosts_88 rfl rfl rfl ?_
            refine SW.cF (q := 92) (C_X0_removedRank) vX1_94 (by decide) rfl rfl rfl rfl (Nat.le_of_ble_eq_true rfl) dX1_findCosts_89 rfl ?_
            rw [u0, q3, wl_key_r (by omega) (by omega)]
            refine SW.istore (q := 94) (i := 9) dX1_findCosts_92 (by decide) rfl ?_
            refine SW.iload (q := 96) (i := 9) dX1_findCosts_94 rfl rfl ?_
            refine SW.aload_n (q := 97) (i := 0) dX1_findCosts_96 rfl rfl rfl ?_
            refine SW.getR (q := 100) (i := 5) (j := 28) fX1_14 rfl rfl dX1_findCosts_97 rfl ?_
            refine SW.iload (q := 102) (i := 6) dX1_findCosts_100 rfl rfl ?_
            refine SW.iload (q := 104) (i := 8) dX1_findCosts_102 rfl rfl ?_
            refine SW.iadd (q := 105) dX1_findCosts_104 rfl ?_
            refine SW.cF (q := 108) (C_X3_atn (i := 28) (j := 54) (n := 3456) rfl rfl (k := 576 * t + q) (nI_add _ _) (by omega)) vX1_50 (by decide) rfl rfl rfl rfl (Nat.le_of_ble_eq_true rfl) dX1_findCosts_105 rfl ?_
            refine SW.icmp_ne (q := 111) (tgt := 122) dX1_findCosts_108 (by decide) rfl (fun c108 => absurd ((by rw [f1 54 (by decide), hlab q q2, q4]; rfl)) c108) (fun _ => ?_)
            refine SW.aload_n (q := 112) (i := 0) dX1_findCosts_111 rfl rfl rfl ?_
            refine SW.aload_n (q := 113) (i := 1) dX1_findCosts_112 rfl rfl rfl ?_
            refine SW.aload_n (q := 114) (i := 2) dX1_findCosts_113 rfl rfl rfl ?_
            refine SW.aload_n (q := 115) (i := 3) dX1_findCosts_114 rfl rfl rfl ?_
            refine SW.iload (q := 117) (i := 6) dX1_findCosts_115 rfl rfl ?_
            refine SW.iload (q := 119) (i := 8) dX1_findCosts_117 rfl rfl ?_
            refine SW.cV (q := 122) (C_X1_spreadCosts (h := h) (kd := kd) (S := wt_tk Z K) (d := d) (r := ρ) (M := 510 * K) (c := c - 1) (s := s) (br := br) (hG1.fr f1 (by decide) (by decide) (by decide) (by decide)) (by rw [f1 48 (by decide), hf 48 (by decide)]; exact hkd) (by rw [f1 5 (by decide), hf 5 (by decide)]; exact hb) b100 ht6 hC2 hqS q4 (fun v hv => by rw [f1 54 (by decide)]; exact hlab v hv) (drop u76 f1 u1 u2 u3 u4 (wt_tk Z K) (510 * K) (Nat.le_refl _) (by omega) (fun _ z => z) (Or.inl hqS)) (by omega) (Or.inl (hcl q hqS)) (by omega)) vX1_97 (by decide) rfl rfl rfl rfl (Nat.le_of_ble_eq_true rfl) dX1_findCosts_119 rfl (fun u119 r119 => ?_)
            obtain ⟨w1, w2, d', c', w3, w4, w5, w6, w7, w8, w9, w10⟩ := r119
            have ec := w10 (hcl q hqS)
            refine SW.iinc (q := 125) (v := _ + 1) dX1_findCosts_122 rfl rfl (by decide) rfl ?_
            refine SW.goto (q := 67) dX1_findCosts_125 (by decide) ?_
            refine SW.eq (by rw [nI_1]; rfl) rfl rfl (ih (i + 1) (by omega) _ _ u119 K c' ρ Z d' (fr_tr (fr_tr hf f1 (by decide)) w1 (by decide)) (fun k hk => by rw [w2 k hk, f1 54 (by decide)]; exact hbk k hk) w3 hZ hZi w4 w5 (fun u hu => (hcl u hu).dn w6 (w7 u hu)) (by omega))
          · have hZ' : ∀ i, i < K + 1 → va_up Z K q i < n * n := by
              intro i hi
              by_cases z : i = K
              · subst z; rw [up_i]; exact q2
              · rw [up_o z]; exact hZ i (by omega)
            have hZi' : ∀ i j, i < K + 1 → j < K + 1 → va_up Z K q i = va_up Z K q j → i = j := by
              intro i j hi hj e
              by_cases z : i = K
              · by_cases z2 : j = K
                · omega
                · subst z
                  rw [up_i, up_o z2] at e
                  exact absurd ⟨j, by omega, e.symm⟩ hqS
              · by_cases z2 : j = K
                · subst z2
                  rw [up_i, up_o z] at e
                  exact absurd ⟨i, by omega, e⟩ hqS
                · rw [up_o z, up_o z2] at e
                  exact hZi i j (by omega) (by omega) e
            have hK' : K + 1 ≤ n * n := inj_le hZ' hZi'
            have sub : ∀ v, wt_tk Z K v → wt_tk (va_up Z K q) (K + 1) v := fun v hv => wt_tk_snoc.mpr (Or.inl hv)
            have hqS' : wt_tk (va_up Z K q) (K + 1) q := wt_tk_snoc.mpr (Or.inr rfl)
            have hC2 : nt_C n h kd br s (wt_tk (va_up Z K q) (K + 1)) d ρ (510 * (K + 1)) := by
              refine ⟨hC.1, fun v c e => ?_, fun v hv => ?_, fun v c1 e hv => low v c1 e (fun z => hv (sub v z))⟩
              · obtain ⟨a1, a2, a3⟩ := hC.2.1 v c e
                exact ⟨a1, by omega, a3⟩
              · rcases wt_tk_snoc.mp hv with hv | rfl
                · obtain ⟨c1, e1, l1⟩ := hC.2.2.1 v hv
                  exact ⟨c1, e1, by omega⟩
                · exact ⟨ρ, q4, Nat.le_refl _⟩
            refine SW.iload (q := 69) (i := 7) dX1_findCosts_67 rfl rfl ?_
            refine SW.sipush (q := 72) (v := 2308) dX1_findCosts_69 (by decide) rfl ?_
            refine SW.icmp_ge (q := 75) (tgt := 128) dX1_findCosts_72 (by decide) rfl (fun c72 => absurd c72 ((nI_ge (a := i) (b := 2308) (by omega) (by omega)))) (fun _ => ?_)
            refine SW.aload_n (q := 76) (i := 3) dX1_findCosts_75 rfl rfl rfl ?_
            refine SW.cR (q := 79) (C_X0_remove (c := c) g1 (by omega) g2) vX1_86 (by decide) rfl rfl rfl rfl (Nat.le_of_ble_eq_true rfl) dX1_findCosts_76 rfl (fun v76 u76 r76 => ?_)
            rcases r76 with ⟨z, -⟩ | ⟨z, rfl, f1, u1, u0, u2, u3, u4⟩
            · exact absurd z hc0
            refine SW.if_eq (q := 82) (tgt := 128) dX1_findCosts_79 (by decide) rfl (fun c79 => absurd c79 ((by decide))) (fun _ => ?_)
            refine SW.aload_n (q := 83) (i := 3) dX1_findCosts_82 rfl rfl rfl ?_
            refine SW.cF (q := 86) (C_X0_removedPlace) vX1_90 (by decide) rfl rfl rfl rfl (Nat.le_of_ble_eq_true rfl) dX1_findCosts_83 rfl ?_
            rw [u0, q3, wl_key_q (by omega) (by omega)]
            refine SW.istore (q := 88) (i := 8) dX1_findCosts_86 (by decide) rfl ?_
            refine SW.aload_n (q := 89) (i := 3) dX1_findCosts_88 rfl rfl rfl ?_
            refine SW.cF (q := 92) (C_X0_removedRank) vX1_94 (by decide) rfl rfl rfl rfl (Nat.le_of_ble_eq_true rfl) dX1_findCosts_89 rfl ?_
            rw [u0, q3, wl_key_r (by omega) (by omega)]
            refine SW.istore (q := 94) (i := 9) dX1_findCosts_92 (by decide) rfl ?_
            refine SW.iload (q := 96) (i := 9) dX1_findCosts_94 rfl rfl ?_
            refine SW.aload_n (q := 97) (i := 0) dX1_findCosts_96 rfl rfl rfl ?_
            refine SW.getR (q := 100) (i := 5) (j := 28) fX1_14 rfl rfl dX1_findCosts_97 rfl ?_
            refine SW.iload (q := 102) (i := 6) dX1_findCosts_100 rfl rfl ?_
            refine SW.iload (q := 104) (i := 8) dX1_findCosts_102 rfl rfl ?_
            refine SW.iadd (q := 105) dX1_findCosts_104 rfl ?_
            refine SW.cF (q := 108) (C_X3_atn (i := 28) (j := 54) (n := 3456) rfl rfl (k := 576 * t + q) (nI_add _ _) (by omega)) vX1_50 (by decide) rfl rfl rfl rfl (Nat.le_of_ble_eq_true rfl) dX1_findCosts_105 rfl ?_
            refine SW.icmp_ne (q := 111) (tgt := 122) dX1_findCosts_108 (by decide) rfl (fun c108 => absurd ((by rw [f1 54 (by decide), hlab q q2, q4]; rfl)) c108) (fun _ => ?_)
            refine SW.aload_n (q := 112) (i := 0) dX1_findCosts_111 rfl rfl rfl ?_
            refine SW.aload_n (q := 113) (i := 1) dX1_findCosts_112 rfl rfl rfl ?_
            refine SW.aload_n (q := 114) (i := 2) dX1_findCosts_113 rfl rfl rfl ?_
            refine SW.aload_n (q := 115) (i := 3) dX1_findCosts_114 rfl rfl rfl ?_
            refine SW.iload (q := 117) (i := 6) dX1_findCosts_115 rfl rfl ?_
            refine SW.iload (q := 119) (i := 8) dX1_findCosts_117 rfl rfl ?_
            refine SW.cV (q := 122) (C_X1_spreadCosts (h := h) (kd := kd) (S := wt_tk (va_up Z K q) (K + 1)) (d := d) (r := ρ) (M := 510 * (K + 1)) (c := c - 1) (s := s) (br := br) (hG1.fr f1 (by decide) (by decide) (by decide) (by decide)) (by rw [f1 48 (by decide), hf 48 (by decide)]; exact hkd) (by rw [f1 5 (by decide), hf 5 (by decide)]; exact hb) b100 ht6 hC2 hqS' q4 (fun v hv => by rw [f1 54 (by decide)]; exact hlab v hv) (drop u76 f1 u1 u2 u3 u4 (wt_tk (va_up Z K q) (K + 1)) (510 * (K + 1)) (by omega) (by omega) sub (Or.inl hqS')) (by omega) (Or.inr (by omega)) (by omega)) vX1_97 (by decide) rfl rfl rfl rfl (Nat.le_of_ble_eq_true rfl) dX1_findCosts_119 rfl (fun u119 r119 => ?_)
            obtain ⟨w1, w2, d', c', w3, w4, w5, w6, w7, w8, w9, w10⟩ := r119
            refine SW.iinc (q := 125) (v := _ + 1) dX1_findCosts_122 rfl rfl (by decide) rfl ?_
            refine SW.goto (q := 67) dX1_findCosts_125 (by decide) ?_
            refine SW.eq (by rw [nI_1]; rfl) rfl rfl (ih (i + 1) (by omega) _ _ u119 (K + 1) c' ρ (va_up Z K q) d' (fr_tr (fr_tr hf f1 (by decide)) w1 (by decide)) (fun k hk => by rw [w2 k hk, f1 54 (by decide)]; exact hbk k hk) w3 hZ' hZi' w4 w5 (fun u hu => ?_) (by omega))
            rcases wt_tk_snoc.mp hu with hu2 | rfl
            · exact (hcl u hu2).dn w6 (w7 u hu)
            · exact w8
        · refine SW.iload (q := 69) (i := 7) dX1_findCosts_67 rfl rfl ?_
          refine SW.sipush (q := 72) (v := 2308) dX1_findCosts_69 (by decide) rfl ?_
          refine SW.icmp_ge (q := 75) (tgt := 128) dX1_findCosts_72 (by decide) rfl (fun c72 => absurd c72 ((nI_ge (a := i) (b := 2308) (by omega) (by omega)))) (fun _ => ?_)
          refine SW.aload_n (q := 76) (i := 3) dX1_findCosts_75 rfl rfl rfl ?_
          refine SW.cR (q := 79) (C_X0_remove (c := c) g1 (by omega) g2) vX1_86 (by decide) rfl rfl rfl rfl (Nat.le_of_ble_eq_true rfl) dX1_findCosts_76 rfl (fun v76 u76 r76 => ?_)
          rcases r76 with ⟨z, -⟩ | ⟨z, rfl, f1, u1, u0, u2, u3, u4⟩
          · exact absurd z hc0
          refine SW.if_eq (q := 82) (tgt := 128) dX1_findCosts_79 (by decide) rfl (fun c79 => absurd c79 ((by decide))) (fun _ => ?_)
          refine SW.aload_n (q := 83) (i := 3) dX1_findCosts_82 rfl rfl rfl ?_
          refine SW.cF (q := 86) (C_X0_removedPlace) vX1_90 (by decide) rfl rfl rfl rfl (Nat.le_of_ble_eq_true rfl) dX1_findCosts_83 rfl ?_
          rw [u0, q3, wl_key_q (by omega) (by omega)]
          refine SW.istore (q := 88) (i := 8) dX1_findCosts_86 (by decide) rfl ?_
          refine SW.aload_n (q := 89) (i := 3) dX1_findCosts_88 rfl rfl rfl ?_
          refine SW.cF (q := 92) (C_X0_removedRank) vX1_94 (by decide) rfl rfl rfl rfl (Nat.le_of_ble_eq_true rfl) dX1_findCosts_89 rfl ?_
          rw [u0, q3, wl_key_r (by omega) (by omega)]
          refine SW.istore (q := 94) (i := 9) dX1_findCosts_92 (by decide) rfl ?_
          refine SW.iload (q := 96) (i := 9) dX1_findCosts_94 rfl rfl ?_
          refine SW.aload_n (q := 97) (i := 0) dX1_findCosts_96 rfl rfl rfl ?_
          refine SW.getR (q := 100) (i := 5) (j := 28) fX1_14 rfl rfl dX1_findCosts_97 rfl ?_
          refine SW.iload (q := 102) (i := 6) dX1_findCosts_100 rfl rfl ?_
          refine SW.iload (q := 104) (i := 8) dX1_findCosts_102 rfl rfl ?_
          refine SW.iadd (q := 105) dX1_findCosts_104 rfl ?_
          refine SW.cF (q := 108) (C_X3_atn (i := 28) (j := 54) (n := 3456) rfl rfl (k := 576 * t + q) (nI_add _ _) (by omega)) vX1_50 (by decide) rfl rfl rfl rfl (Nat.le_of_ble_eq_true rfl) dX1_findCosts_105 rfl ?_
          refine SW.icmp_ne (q := 111) (tgt := 122) dX1_findCosts_108 (by decide) rfl (fun _ => ?_) (fun c108 => absurd c108 ((by rw [f1 54 (by decide), hlab q q2, q4]; show ¬ nI ρ = nI c0; rw [nI_eq (by omega) (by omega)]; exact hρ)))
          refine SW.iinc (q := 125) (v := _ + 1) dX1_findCosts_122 rfl rfl (by decide) rfl ?_
          refine SW.goto (q := 67) dX1_findCosts_125 (by decide) ?_
          refine SW.eq (by rw [nI_1]; rfl) rfl rfl (ih (i + 1) (by omega) _ _ u76 K (c - 1) ρ Z d (fr_tr hf f1 (by decide)) (fun k hk => by rw [f1 54 (by decide)]; exact hbk k hk) (fun v hv => by rw [f1 54 (by decide)]; exact hlab v hv) hZ hZi ⟨hC.1, hC.2.1, fun v hv => ?_, low⟩ (drop u76 f1 u1 u2 u3 u4 (wt_tk Z K) (510 * K) (Nat.le_refl _) (by omega) (fun _ z => z) (Or.inr hρ)) hcl (by omega))
          obtain ⟨c1, e1, l1⟩ := hC.2.2.1 v hv
          exact ⟨c1, e1, by omega⟩
  have init : ∀ (k p : Nat), p + k = n * n → ∀ (A B : Value) (τ : sw_Sg), fr_ [54] σ τ → nt_blk t σ τ → (∀ v, v < p → τ 54 (576 * t + v) = -6) →
      SW X 3 mX1_findCosts sw_E0 (sw_Rv (fun u => fr_ [6, 54, 58] σ u ∧ nt_blk t σ u ∧ ∃ d, nt_ok n h kd br s d ∧ nt_lab n t d u)) 11 [.ref (sw_ad X 5), .ref (sw_ad X 1), .ref (sw_ad X 2), .ref (sw_ad X 6), .int (nI t), .int (nI s), .int (nI (576 * t)), .int (nI p), A, B] [] τ := by
    intro k
    induction k with
    | zero =>
      intro p hpk A B τ hf hbk hI
      obtain rfl : p = n * n := by omega
      refine SW.iload (q := 13) (i := 7) dX1_findCosts_11 rfl rfl ?_
      refine SW.aload_n (q := 14) (i := 1) dX1_findCosts_13 rfl rfl rfl ?_
      refine SW.getI (q := 17) (i := 1) fX1_73 rfl rfl dX1_findCosts_14 rfl ?_
      refine SW.icmp_ge (q := 20) (tgt := 40) dX1_findCosts_17 (by decide) rfl (fun _ => ?_) (fun c17 => absurd ((by rw [hf 1 (by decide), hpl]; exact Int32.le_refl _)) c17)
      refine SW.aload_n (q := 41) (i := 3) dX1_findCosts_40 rfl rfl rfl ?_
      refine SW.cG (q := 44) (C_X0_empty) vX1_78 (by decide) rfl rfl rfl rfl (Nat.le_of_ble_eq_true rfl) dX1_findCosts_41 rfl ?_
      refine SW.aload_n (q := 45) (i := 0) dX1_findCosts_44 rfl rfl rfl ?_
      refine SW.getR (q := 48) (i := 5) (j := 28) fX1_14 rfl rfl dX1_findCosts_45 rfl ?_
      refine SW.iload (q := 50) (i := 6) dX1_findCosts_48 rfl rfl ?_
      refine SW.iload (q := 52) (i := 5) dX1_findCosts_50 rfl rfl ?_
      refine SW.iadd (q := 53) dX1_findCosts_52 rfl ?_
      refine SW.iconst (q := 54) (v := 0) dX1_findCosts_53 (by decide) rfl ?_
      refine SW.cG (q := 57) (C_X3_putn (i := 28) (j := 54) (n := 3456) rfl rfl (k := 576 * t + s) (nI_add _ _) (by omega)) vX1_61 (by decide) rfl rfl rfl rfl (Nat.le_of_ble_eq_true rfl) dX1_findCosts_54 rfl ?_
      generalize hτ1 : sw_up (sw_up τ 6 1 0) 54 (576 * t + s) 0 = τ1
      have f1 : fr_ [6, 54] σ τ1 := by rw [← hτ1]; exact fr_up (fr_up (fr_sub hf (by decide)) (by decide)) (by decide)
      have e6 : τ1 6 1 = nI 0 := by rw [← hτ1, sw_un (by decide), sw_i1]; rfl
      refine SW.aload_n (q := 58) (i := 3) dX1_findCosts_57 rfl rfl rfl ?_
      refine SW.iconst (q := 59) (v := 0) dX1_findCosts_58 (by decide) rfl ?_
      refine SW.iload (q := 61) (i := 5) dX1_findCosts_59 rfl rfl ?_
      refine SW.cV (q := 64) (C_X0_insert (c := 0) e6 (by omega) (fun i _ hi => absurd hi (Nat.not_lt_zero _))) vX1_83 (by decide) rfl rfl rfl rfl (Nat.le_of_ble_eq_true rfl) dX1_findCosts_61 rfl (fun u61 r61 => ?_)
      obtain ⟨s1, s2, s3, s4⟩ := r61
      rw [show (0 : Int32) = nI 0 from rfl, hp_key_e (by omega) (by omega)] at s4
      refine SW.iconst (q := 65) (v := 0) dX1_findCosts_64 (by decide) rfl ?_
      refine SW.istore (q := 67) (i := 7) dX1_findCosts_65 (by decide) rfl ?_
      refine loop 2308 0 rfl _ _ u61 0 1 0 (fun _ => 0) (nt_d0 s) (fr_tr (fr_sub f1 (by decide)) s1 (by decide)) (fun k hk => ?_) (fun v hv => ?_) (fun i hi => absurd hi (Nat.not_lt_zero _)) (fun i j hi => absurd hi (Nat.not_lt_zero _)) ⟨nt_d0_i, fun v c e => ?_, fun v ⟨i, i1, _⟩ => absurd i1 (Nat.not_lt_zero _), fun v c _ _ => Nat.zero_le _⟩ ⟨s2, s3, fun z hz => ?_, fun v c e _ => ?_⟩ (fun u ⟨i, i1, _⟩ => absurd i1 (Nat.not_lt_zero _)) (by omega)
      · rw [s1 54 (by decide), ← hτ1, sw_o1 (by omega), sw_un (by decide)]; exact hbk k hk
      · rw [s1 54 (by decide), ← hτ1]
        by_cases z : v = s
        · subst z; rw [sw_i1, nt_d0_i]; rfl
        · rw [sw_o1 (by omega), sw_un (by decide), nt_d0_o z, hI v hv]; rfl
      · by_cases z : v = s
        · subst z; rw [nt_d0_i] at e; cases e; exact ⟨hs, Nat.zero_le _, 0, rfl, rfl⟩
        · rw [nt_d0_o z] at e; cases e
      · rcases (s4 z).mp hz with ⟨i, i1, _⟩ | rfl
        · exact absurd i1 (Nat.not_lt_zero _)
        · exact ⟨0, s, 0, Nat.zero_le _, hs, rfl, nt_d0_i, Nat.le_refl _, Nat.le_refl _⟩
      · by_cases z : v = s
        · subst z; rw [nt_d0_i] at e; cases e; exact (s4 _).mpr (Or.inr rfl)
        · rw [nt_d0_o z] at e; cases e
    | succ k ih =>
      intro p hpk A B τ hf hbk hI
      refine SW.iload (q := 13) (i := 7) dX1_findCosts_11 rfl rfl ?_
      refine SW.aload_n (q := 14) (i := 1) dX1_findCosts_13 rfl rfl rfl ?_
      refine SW.getI (q := 17) (i := 1) fX1_73 rfl rfl dX1_findCosts_14 rfl ?_
      refine SW.icmp_ge (q := 20) (tgt := 40) dX1_findCosts_17 (by decide) rfl (fun c17 => absurd c17 ((by rw [hf 1 (by decide), hpl]; exact nI_ge (by omega) (by omega)))) (fun _ => ?_)
      refine SW.aload_n (q := 21) (i := 0) dX1_findCosts_20 rfl rfl rfl ?_
      refine SW.getR (q := 24) (i := 5) (j := 28) fX1_14 rfl rfl dX1_findCosts_21 rfl ?_
      refine SW.iload (q := 26) (i := 6) dX1_findCosts_24 rfl rfl ?_
      refine SW.iload (q := 28) (i := 7) dX1_findCosts_26 rfl rfl ?_
      refine SW.iadd (q := 29) dX1_findCosts_28 rfl ?_
      refine SW.bipush (q := 31) (v := (-6)) dX1_findCosts_29 (by decide) rfl ?_
      refine SW.cG (q := 34) (C_X3_putn (i := 28) (j := 54) (n := 3456) rfl rfl (k := 576 * t + p) (nI_add _ _) (by omega)) vX1_61 (by decide) rfl rfl rfl rfl (Nat.le_of_ble_eq_true rfl) dX1_findCosts_31 rfl ?_
      refine SW.iinc (q := 37) (v := _ + 1) dX1_findCosts_34 rfl rfl (by decide) rfl ?_
      refine SW.goto (q := 11) dX1_findCosts_37 (by decide) ?_
      refine SW.eq (by rw [nI_1]; rfl) rfl rfl (ih (p + 1) (by omega) _ _ _ (fr_up hf (by decide)) (fun k hk => by rw [sw_o1 (by omega)]; exact hbk k hk) (fun v hv => ?_))
      by_cases z : v = p
      · subst z; rw [sw_i1]
      · rw [sw_o1 (by omega)]; exact hI v (by omega)
  refine SW.sipush (q := 3) (v := 576) dX1_findCosts_0 (by decide) rfl ?_
  refine SW.iload (q := 5) (i := 4) dX1_findCosts_3 rfl rfl ?_
  refine SW.imul (q := 6) dX1_findCosts_5 rfl ?_
  refine SW.istore (q := 8) (i := 6) dX1_findCosts_6 (by decide) rfl ?_
  refine SW.iconst (q := 9) (v := 0) dX1_findCosts_8 (by decide) rfl ?_
  refine SW.istore (q := 11) (i := 7) dX1_findCosts_9 (by decide) rfl ?_
  exact SW.eq (by rw [show (576 : Int32) = nI 576 from rfl, pk_mul]; rfl) rfl rfl (init (n * n) 0 (by omega) _ _ σ fr_rf (fun _ _ => rfl) (fun v hv => absurd hv (Nat.not_lt_zero _)))
end NFIND
