/-! the heap: taking the first one out -/
section HEAP2
variable {X : sw_X} {σ : sw_Sg} {x y : Int32} {c : Nat}
theorem C_X0_sink (hc : σ 6 1 = nI c) (hlt : c ≤ 2308) (hH : hp_down (σ 58) c 0 x) : sw_Mv X 1 mX0_sink [.ref (sw_ad X 6), .int x] σ (fun u => fr_ [58] σ u ∧ hp_ok (u 58) c ∧ ∀ z, hp_in (u 58) c z ↔ 0 < c ∧ (hp_holeIn (σ 58) c 0 z ∨ z = x)) := by
  refine sw_ME.ofF (by decide +kernel) rfl (Nat.le_of_ble_eq_true rfl) rfl ?_
  have loop : ∀ (m h : Nat) (τ : sw_Sg), c - h = m → h < c → fr_ [58] σ τ → hp_down (τ 58) c h x → (∀ z, hp_holeIn (τ 58) c h z ↔ hp_holeIn (σ 58) c 0 z) →
      SW X 1 mX0_sink sw_E0 (sw_Rv (fun u => fr_ [58] σ u ∧ hp_ok (u 58) c ∧ ∀ z, hp_in (u 58) c z ↔ 0 < c ∧ (hp_holeIn (σ 58) c 0 z ∨ z = x))) 4 [.ref (sw_ad X 6), .int x, .int (nI h), .int (nI (2 * h + 1))] [] τ := by
    intro m
    induction m using Nat.strongRecOn with
    | ind m ih =>
      intro h τ hm hlt2 hf hd hin
      have hcnt : τ 6 1 = nI c := by rw [hf 6 (by decide)]; exact hc
      have fin : (∀ i, 0 < i → i < c → (i - 1) / 2 = h → x.toInt ≤ (τ 58 i).toInt) → (fun u => fr_ [58] σ u ∧ hp_ok (u 58) c ∧ ∀ z, hp_in (u 58) c z ↔ 0 < c ∧ (hp_holeIn (σ 58) c 0 z ∨ z = x)) (sw_up τ 58 h x) := by
        intro hk
        refine ⟨fr_up hf (by decide), ?_, fun z => ?_⟩
        · rw [sw_up_i]; exact hp_dend hd hk
        · rw [sw_up_i, hp_endIn hlt2, hin]
          exact ⟨fun h => ⟨by omega, h⟩, fun h => h.2⟩
      have J46 : ∀ (g : Nat), (g - 1) / 2 = h → 0 < g → g < c → (∀ i, 0 < i → i < c → (i - 1) / 2 = h → (τ 58 g).toInt ≤ (τ 58 i).toInt) →
          SW X 1 mX0_sink sw_E0 (sw_Rv (fun u => fr_ [58] σ u ∧ hp_ok (u 58) c ∧ ∀ z, hp_in (u 58) c z ↔ 0 < c ∧ (hp_holeIn (σ 58) c 0 z ∨ z = x))) 46 [.ref (sw_ad X 6), .int x, .int (nI h), .int (nI g)] [] τ := by
        intro g g1 g0 gc gm
        refine SW.aload_n (q := 47) (i := 0) dX0_sink_46 rfl rfl rfl ?_
        refine SW.getR (q := 50) (i := 6) (j := 32) fX0_16 rfl rfl dX0_sink_47 rfl ?_
        refine SW.iload_n (q := 51) (i := 3) dX0_sink_50 rfl rfl rfl ?_
        refine SW.cF (q := 54) (C_X3_atn (i := 32) (j := 58) (n := 2308) rfl rfl (k := g) rfl (by omega)) vX0_27 (by decide) rfl rfl rfl rfl (Nat.le_of_ble_eq_true rfl) dX0_sink_51 rfl ?_
        refine SW.iload_n (q := 55) (i := 1) dX0_sink_54 rfl rfl rfl ?_
        refine SW.icmp_lt (q := 58) (tgt := 61) dX0_sink_55 (by decide) rfl (fun c55 => ?_) (fun c55 => ?_)
        · refine SW.aload_n (q := 62) (i := 0) dX0_sink_61 rfl rfl rfl ?_
          refine SW.getR (q := 65) (i := 6) (j := 32) fX0_16 rfl rfl dX0_sink_62 rfl ?_
          refine SW.iload_n (q := 66) (i := 2) dX0_sink_65 rfl rfl rfl ?_
          refine SW.aload_n (q := 67) (i := 0) dX0_sink_66 rfl rfl rfl ?_
          refine SW.getR (q := 70) (i := 6) (j := 32) fX0_16 rfl rfl dX0_sink_67 rfl ?_
          refine SW.iload_n (q := 71) (i := 3) dX0_sink_70 rfl rfl rfl ?_
          refine SW.cF (q := 74) (C_X3_atn (i := 32) (j := 58) (n := 2308) rfl rfl (k := g) rfl (by omega)) vX0_27 (by decide) rfl rfl rfl rfl (Nat.le_of_ble_eq_true rfl) dX0_sink_71 rfl ?_
          refine SW.cG (q := 77) (C_X3_putn (i := 32) (j := 58) (n := 2308) rfl rfl (k := h) rfl (by omega)) vX0_31 (by decide) rfl rfl rfl rfl (Nat.le_of_ble_eq_true rfl) dX0_sink_74 rfl ?_
          refine SW.iload_n (q := 78) (i := 3) dX0_sink_77 rfl rfl rfl ?_
          refine SW.istore_n (q := 79) (i := 2) dX0_sink_78 rfl (by decide) rfl ?_
          refine SW.iconst (q := 80) (v := 2) dX0_sink_79 (by decide) rfl ?_
          refine SW.iload_n (q := 81) (i := 2) dX0_sink_80 rfl rfl rfl ?_
          refine SW.imul (q := 82) dX0_sink_81 rfl ?_
          refine SW.iconst (q := 83) (v := 1) dX0_sink_82 (by decide) rfl ?_
          refine SW.iadd (q := 84) dX0_sink_83 rfl ?_
          refine SW.istore_n (q := 85) (i := 3) dX0_sink_84 rfl (by decide) rfl ?_
          refine SW.goto (q := 4) dX0_sink_85 (by decide) ?_
          refine SW.eq (by rw [show (2 : Int32) = nI 2 from rfl, pk_mul, nI_1]; rfl) rfl rfl (ih (c - g) (by omega) g (sw_up τ 58 h (τ 58 g)) rfl gc (fr_up hf (by decide)) ?_ (fun z => ?_))
          · rw [sw_up_i]; exact hp_dn hd g1 g0 gc gm (i_lt.mp c55)
          · rw [sw_up_i, hp_upIn (by omega) hlt2 gc, hin]
        · refine SW.goto (q := 88) dX0_sink_58 (by decide) ?_
          refine SW.aload_n (q := 89) (i := 0) dX0_sink_88 rfl rfl rfl ?_
          refine SW.getR (q := 92) (i := 6) (j := 32) fX0_16 rfl rfl dX0_sink_89 rfl ?_
          refine SW.iload_n (q := 93) (i := 2) dX0_sink_92 rfl rfl rfl ?_
          refine SW.iload_n (q := 94) (i := 1) dX0_sink_93 rfl rfl rfl ?_
          refine SW.cG (q := 97) (C_X3_putn (i := 32) (j := 58) (n := 2308) rfl rfl (k := h) rfl (by omega)) vX0_31 (by decide) rfl rfl rfl rfl (Nat.le_of_ble_eq_true rfl) dX0_sink_94 rfl ?_
          refine SW.vretR rfl dX0_sink_97 ?_
          exact fin (fun i i0 ic ip => by have := gm i i0 ic ip; have := mt i_lt.mpr c55; omega)
      by_cases h1 : c ≤ 2 * h + 1
      · refine SW.iload_n (q := 5) (i := 3) dX0_sink_4 rfl rfl rfl ?_
        refine SW.aload_n (q := 6) (i := 0) dX0_sink_5 rfl rfl rfl ?_
        refine SW.getI (q := 9) (i := 6) fX0_20 rfl rfl dX0_sink_6 rfl ?_
        refine SW.icmp_ge (q := 12) (tgt := 88) dX0_sink_9 (by decide) rfl (fun _ => ?_) (fun c9 => absurd ((by rw [hcnt]; exact nI_le h1 (by omega))) c9)
        refine SW.aload_n (q := 89) (i := 0) dX0_sink_88 rfl rfl rfl ?_
        refine SW.getR (q := 92) (i := 6) (j := 32) fX0_16 rfl rfl dX0_sink_89 rfl ?_
        refine SW.iload_n (q := 93) (i := 2) dX0_sink_92 rfl rfl rfl ?_
        refine SW.iload_n (q := 94) (i := 1) dX0_sink_93 rfl rfl rfl ?_
        refine SW.cG (q := 97) (C_X3_putn (i := 32) (j := 58) (n := 2308) rfl rfl (k := h) rfl (by omega)) vX0_31 (by decide) rfl rfl rfl rfl (Nat.le_of_ble_eq_true rfl) dX0_sink_94 rfl ?_
        refine SW.vretR rfl dX0_sink_97 ?_
        exact fin (fun i i0 ic ip => by omega)
      · by_cases h2 : c ≤ 2 * h + 2
        · refine SW.iload_n (q := 5) (i := 3) dX0_sink_4 rfl rfl rfl ?_
          refine SW.aload_n (q := 6) (i := 0) dX0_sink_5 rfl rfl rfl ?_
          refine SW.getI (q := 9) (i := 6) fX0_20 rfl rfl dX0_sink_6 rfl ?_
          refine SW.icmp_ge (q := 12) (tgt := 88) dX0_sink_9 (by decide) rfl (fun c9 => absurd c9 ((by rw [hcnt]; exact nI_ge (by omega) (by omega)))) (fun _ => ?_)
          refine SW.iload_n (q := 13) (i := 3) dX0_sink_12 rfl rfl rfl ?_
          refine SW.iconst (q := 14) (v := 1) dX0_sink_13 (by decide) rfl ?_
          refine SW.iadd (q := 15) dX0_sink_14 rfl ?_
          refine SW.aload_n (q := 16) (i := 0) dX0_sink_15 rfl rfl rfl ?_
          refine SW.getI (q := 19) (i := 6) fX0_20 rfl rfl dX0_sink_16 rfl ?_
          refine SW.icmp_ge (q := 22) (tgt := 46) dX0_sink_19 (by decide) rfl (fun _ => ?_) (fun c19 => absurd ((by rw [hcnt, nI_1]; exact nI_le (by omega) (by omega))) c19)
          exact J46 (2 * h + 1) (by omega) (by omega) (by omega) (fun i i0 ic ip => by rw [show i = 2 * h + 1 by omega]; exact Int.le_refl _)
        · refine SW.iload_n (q := 5) (i := 3) dX0_sink_4 rfl rfl rfl ?_
          refine SW.aload_n (q := 6) (i := 0) dX0_sink_5 rfl rfl rfl ?_
          refine SW.getI (q := 9) (i := 6) fX0_20 rfl rfl dX0_sink_6 rfl ?_
          refine SW.icmp_ge (q := 12) (tgt := 88) dX0_sink_9 (by decide) rfl (fun c9 => absurd c9 ((by rw [hcnt]; exact nI_ge (by omega) (by omega)))) (fun _ => ?_)
          refine SW.iload_n (q := 13) (i := 3) dX0_sink_12 rfl rfl rfl ?_
          refine SW.iconst (q := 14) (v := 1) dX0_sink_13 (by decide) rfl ?_
          refine SW.iadd (q := 15) dX0_sink_14 rfl ?_
          refine SW.aload_n (q := 16) (i := 0) dX0_sink_15 rfl rfl rfl ?_
          refine SW.getI (q := 19) (i := 6) fX0_20 rfl rfl dX0_sink_16 rfl ?_
          refine SW.icmp_ge (q := 22) (tgt := 46) dX0_sink_19 (by decide) rfl (fun c19 => absurd c19 ((by rw [hcnt, nI_1]; exact nI_ge (by omega) (by omega)))) (fun _ => ?_)
          refine SW.aload_n (q := 23) (i := 0) dX0_sink_22 rfl rfl rfl ?_
          refine SW.getR (q := 26) (i := 6) (j := 32) fX0_16 rfl rfl dX0_sink_23 rfl ?_
          refine SW.iload_n (q := 27) (i := 3) dX0_sink_26 rfl rfl rfl ?_
          refine SW.iconst (q := 28) (v := 1) dX0_sink_27 (by decide) rfl ?_
          refine SW.iadd (q := 29) dX0_sink_28 rfl ?_
          refine SW.cF (q := 32) (C_X3_atn (i := 32) (j := 58) (n := 2308) rfl rfl (k := 2 * h + 2) (nI_1 _) (by omega)) vX0_27 (by decide) rfl rfl rfl rfl (Nat.le_of_ble_eq_true rfl) dX0_sink_29 rfl ?_
          refine SW.aload_n (q := 33) (i := 0) dX0_sink_32 rfl rfl rfl ?_
          refine SW.getR (q := 36) (i := 6) (j := 32) fX0_16 rfl rfl dX0_sink_33 rfl ?_
          refine SW.iload_n (q := 37) (i := 3) dX0_sink_36 rfl rfl rfl ?_
          refine SW.cF (q := 40) (C_X3_atn (i := 32) (j := 58) (n := 2308) rfl rfl (k := 2 * h + 1) rfl (by omega)) vX0_27 (by decide) rfl rfl rfl rfl (Nat.le_of_ble_eq_true rfl) dX0_sink_37 rfl ?_
          refine SW.icmp_ge (q := 43) (tgt := 46) dX0_sink_40 (by decide) rfl (fun c40 => ?_) (fun c40 => ?_)
          · first
            | exact J46 (2 * h + 1) (by omega) (by omega) (by omega) (fun i i0 ic ip => by rcases (show i = 2 * h + 1 ∨ i = 2 * h + 2 by omega) with rfl | rfl <;> first | exact Int.le_refl _ | exact i_le.mp c40)
            | exact SW.eq (by rw [nI_1]; rfl) rfl rfl (J46 (2 * h + 2) (by omega) (by omega) (by omega) (fun i i0 ic ip => by rcases (show i = 2 * h + 1 ∨ i = 2 * h + 2 by omega) with rfl | rfl <;> first | exact Int.le_refl _ | (have := mt i_le.mpr c40; omega)))
          · refine SW.iinc (q := 46) (v := _ + 1) dX0_sink_43 rfl rfl (by decide) rfl ?_
            first
            | exact J46 (2 * h + 1) (by omega) (by omega) (by omega) (fun i i0 ic ip => by rcases (show i = 2 * h + 1 ∨ i = 2 * h + 2 by omega) with rfl | rfl <;> first | exact Int.le_refl _ | exact i_le.mp c40)
            | exact SW.eq (by rw [nI_1]; rfl) rfl rfl (J46 (2 * h + 2) (by omega) (by omega) (by omega) (fun i i0 ic ip => by rcases (show i = 2 * h + 1 ∨ i = 2 * h + 2 by omega) with rfl | rfl <;> first | exact Int.le_refl _ | (have := mt i_le.mpr c40; omega)))
  by_cases hz : c = 0
  · subst hz
    refine SW.iconst (q := 1) (v := 0) dX0_sink_0 (by decide) rfl ?_
    refine SW.istore_n (q := 2) (i := 2) dX0_sink_1 rfl (by decide) rfl ?_
    refine SW.iconst (q := 3) (v := 1) dX0_sink_2 (by decide) rfl ?_
    refine SW.istore_n (q := 4) (i := 3) dX0_sink_3 rfl (by decide) rfl ?_
    refine SW.iload_n (q := 5) (i := 3) dX0_sink_4 rfl rfl rfl ?_
    refine SW.aload_n (q := 6) (i := 0) dX0_sink_5 rfl rfl rfl ?_
    refine SW.getI (q := 9) (i := 6) fX0_20 rfl rfl dX0_sink_6 rfl ?_
    refine SW.icmp_ge (q := 12) (tgt := 88) dX0_sink_9 (by decide) rfl (fun _ => ?_) (fun c9 => absurd ((by rw [hc]; decide)) c9)
    refine SW.aload_n (q := 89) (i := 0) dX0_sink_88 rfl rfl rfl ?_
    refine SW.getR (q := 92) (i := 6) (j := 32) fX0_16 rfl rfl dX0_sink_89 rfl ?_
    refine SW.iload_n (q := 93) (i := 2) dX0_sink_92 rfl rfl rfl ?_
    refine SW.iload_n (q := 94) (i := 1) dX0_sink_93 rfl rfl rfl ?_
    refine SW.cG (q := 97) (C_X3_putn (i := 32) (j := 58) (n := 2308) rfl rfl (k := 0) rfl (by decide)) vX0_31 (by decide) rfl rfl rfl rfl (Nat.le_of_ble_eq_true rfl) dX0_sink_94 rfl ?_
    refine SW.vretR rfl dX0_sink_97 ?_
    exact ⟨fr_up fr_rf (by decide), fun i _ h => absurd h (Nat.not_lt_zero _), fun z => ⟨fun ⟨i, h, _⟩ => absurd h (Nat.not_lt_zero _), fun h => absurd h.1 (Nat.not_lt_zero _)⟩⟩
  · refine SW.iconst (q := 1) (v := 0) dX0_sink_0 (by decide) rfl ?_
    refine SW.istore_n (q := 2) (i := 2) dX0_sink_1 rfl (by decide) rfl ?_
    refine SW.iconst (q := 3) (v := 1) dX0_sink_2 (by decide) rfl ?_
    refine SW.istore_n (q := 4) (i := 3) dX0_sink_3 rfl (by decide) rfl ?_
    exact loop (c - 0) 0 σ rfl (by omega) fr_rf hH (fun z => Iff.rfl)
theorem C_X0_remove (hc : σ 6 1 = nI c) (hlt : c ≤ 2308) (hH : hp_ok (σ 58) c) : sw_Mi X 2 mX0_remove [.ref (sw_ad X 6)] σ (fun v u => (c = 0 ∧ v = 0 ∧ u = σ) ∨ (0 < c ∧ v = 1 ∧ fr_ [6, 58] σ u ∧ u 6 1 = nI (c - 1) ∧ u 6 2 = σ 58 0 ∧ hp_ok (u 58) (c - 1) ∧ (∀ z, hp_in (u 58) (c - 1) z → hp_in (σ 58) c z) ∧ ∀ z, hp_in (σ 58) c z → z = σ 58 0 ∨ hp_in (u 58) (c - 1) z)) := by
  refine sw_ME.ofF (by decide +kernel) rfl (Nat.le_of_ble_eq_true rfl) rfl ?_
  by_cases hz : c = 0
  · subst hz
    refine SW.aload_n (q := 1) (i := 0) dX0_remove_0 rfl rfl rfl ?_
    refine SW.getI (q := 4) (i := 6) fX0_20 rfl rfl dX0_remove_1 rfl ?_
    refine SW.if_gt (q := 7) (tgt := 9) dX0_remove_4 (by decide) rfl (fun c4 => absurd c4 ((by rw [hc]; decide))) (fun _ => ?_)
    refine SW.iconst (q := 8) (v := 0) dX0_remove_7 (by decide) rfl ?_
    refine SW.iretR rfl rfl dX0_remove_8 ?_
    exact Or.inl ⟨rfl, rfl, rfl⟩
  · have e1 : nI c - 1 = nI (c - 1) := by
      have := nI_pred (c - 1)
      rwa [show c - 1 + 1 = c by omega] at this
    refine SW.aload_n (q := 1) (i := 0) dX0_remove_0 rfl rfl rfl ?_
    refine SW.getI (q := 4) (i := 6) fX0_20 rfl rfl dX0_remove_1 rfl ?_
    refine SW.if_gt (q := 7) (tgt := 9) dX0_remove_4 (by decide) rfl (fun _ => ?_) (fun c4 => absurd ((by rw [hc]; exact nI_lt (a := 0) (by omega) (by omega))) c4)
    refine SW.aload_n (q := 10) (i := 0) dX0_remove_9 rfl rfl rfl ?_
    refine SW.aload_n (q := 11) (i := 0) dX0_remove_10 rfl rfl rfl ?_
    refine SW.getR (q := 14) (i := 6) (j := 32) fX0_16 rfl rfl dX0_remove_11 rfl ?_
    refine SW.iconst (q := 15) (v := 0) dX0_remove_14 (by decide) rfl ?_
    refine SW.cF (q := 18) (C_X3_atn (i := 32) (j := 58) (n := 2308) rfl rfl (k := 0) rfl (by decide)) vX0_27 (by decide) rfl rfl rfl rfl (Nat.le_of_ble_eq_true rfl) dX0_remove_15 rfl ?_
    refine SW.putI (q := 21) (i := 6) pX0_24 rfl rfl dX0_remove_18 rfl ?_
    refine SW.aload_n (q := 22) (i := 0) dX0_remove_21 rfl rfl rfl ?_
    refine SW.dup (q := 23) dX0_remove_22 rfl rfl ?_
    refine SW.getI (q := 26) (i := 6) fX0_20 rfl rfl dX0_remove_23 rfl ?_
    refine SW.iconst (q := 27) (v := 1) dX0_remove_26 (by decide) rfl ?_
    refine SW.isub (q := 28) dX0_remove_27 rfl ?_
    refine SW.putI (q := 31) (i := 6) pX0_20 rfl rfl dX0_remove_28 rfl ?_
    generalize hτ : sw_up (sw_up σ 6 2 (σ 58 0)) 6 1 _ = τ
    have t1 : τ 6 1 = nI (c - 1) := by rw [← hτ, sw_up_i, upd_i, sw_up_i, upd_o (by decide), hc, e1]
    have t2 : τ 6 2 = σ 58 0 := by rw [← hτ, sw_up_i, upd_o (by decide), sw_up_i, upd_i]
    have t3 : fr_ [6, 58] σ τ := by rw [← hτ]; exact fr_up (fr_up fr_rf (by decide)) (by decide)
    have t4 : τ 58 = σ 58 := by rw [← hτ, sw_un (by decide), sw_un (by decide)]
    refine SW.aload_n (q := 32) (i := 0) dX0_remove_31 rfl rfl rfl ?_
    refine SW.aload_n (q := 33) (i := 0) dX0_remove_32 rfl rfl rfl ?_
    refine SW.getR (q := 36) (i := 6) (j := 32) fX0_16 rfl rfl dX0_remove_33 rfl ?_
    refine SW.aload_n (q := 37) (i := 0) dX0_remove_36 rfl rfl rfl ?_
    refine SW.getI (q := 40) (i := 6) fX0_20 rfl rfl dX0_remove_37 rfl ?_
    refine SW.cF (q := 43) (C_X3_atn (i := 32) (j := 58) (n := 2308) rfl rfl (k := c - 1) t1 (by omega)) vX0_27 (by decide) rfl rfl rfl rfl (Nat.le_of_ble_eq_true rfl) dX0_remove_40 rfl ?_
    refine SW.cV (q := 46) (C_X0_sink t1 (by omega) ⟨fun i i0 ic _ _ => by rw [t4]; exact hH i i0 (by omega), fun h => absurd h (Nat.lt_irrefl 0), fun _ _ _ _ h => absurd h (Nat.lt_irrefl 0)⟩) vX0_35 (by decide) rfl rfl rfl rfl (Nat.le_of_ble_eq_true rfl) dX0_remove_43 rfl (fun u43 r43 => ?_)
    obtain ⟨s1, s2, s3⟩ := r43
    refine SW.iconst (q := 47) (v := 1) dX0_remove_46 (by decide) rfl ?_
    refine SW.iretR rfl rfl dX0_remove_47 ?_
    refine Or.inr ⟨by omega, rfl, fr_tr t3 s1 (by decide), by rw [s1 6 (by decide)]; exact t1, by rw [s1 6 (by decide)]; exact t2, s2, fun z hz1 => ?_, fun z hz1 => ?_⟩
    · obtain ⟨q1, q2⟩ := (s3 z).mp hz1
      rw [t4] at q2
      rcases q2 with ⟨i, i1, i2, i3⟩ | rfl
      · exact ⟨i, by omega, i3⟩
      · exact ⟨c - 1, by omega, rfl⟩
    · obtain ⟨i, i1, i2⟩ := hz1
      by_cases i0 : i = 0
      · subst i0; exact Or.inl i2.symm
      · refine Or.inr ((s3 z).mpr ⟨by omega, ?_⟩)
        rw [t4]
        by_cases ic : i = c - 1
        · exact Or.inr (by rw [← i2, ic])
        · exact Or.inl ⟨i, by omega, i0, i2⟩
end HEAP2
