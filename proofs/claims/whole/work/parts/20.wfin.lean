/-! WATER in the class, whole -/
def ww_F (n : Nat) (h : Nat → Nat) (sea : Nat) (st : Int32) (T lv od : Nat → Nat) (D : Nat → Option Nat) (iL iD iF iO iK : Nat) (τ : sw_Sg) : Prop :=
  wt_ok n h sea (n * n) T lv od D ∧ ∀ p, p < n * n → τ iL p = nI (lv p) ∧ lv p ≤ 400 ∧ τ iD p = gr_v (D p) ∧ τ iO p = nI (od p) ∧ τ iF p = wf_ n T D p ∧ τ iK p = wk_ (nI (h p)) (nI sea) (nI (lv p)) (wf_ n T D p) st
section WFIN
variable {X : sw_X} {σ : sw_Sg} {x y v w st : Int32} {n p q K c l o m sea : Nat} {h T lv od O : Nat → Nat} {D : Nat → Option Nat} {r : Option Nat}
theorem C_X6_run (hG : ww_G n h σ) (hs : sea ≤ 255) :
    sw_Mv X 4 mX6_run [.ref (sw_ad X 2), .ref (sw_ad X 1), .ref (sw_ad X 6), .int (nI sea), .int st] σ (fun u => fr_ [2, 6, 41, 42, 43, 44, 45, 46, 47, 48, 58] σ u ∧ ∃ T lv od D O, ww_F n h sea st T lv od D 41 42 43 45 48 u ∧ wo_ok n (n * n) T D O ∧ ∀ p, p < n * n → u 44 p = nI (O p)) := by
  have n24 : n ≤ 24 := hG.1.2.1
  have h576 := gr_576 n24
  refine sw_ME.ofF (by decide +kernel) rfl (Nat.le_of_ble_eq_true rfl) rfl ?_
  have loop : ∀ (T lv od : Nat → Nat) (D : Nat → Option Nat) (O : Nat → Nat) (σ1 : sw_Sg), fr_ [2, 6, 41, 42, 43, 44, 45, 46, 47, 58] σ σ1 → wt_ok n h sea (n * n) T lv od D → wo_ok n (n * n) T D O → (∀ p, p < n * n → σ1 41 p = nI (lv p) ∧ lv p ≤ 400 ∧ σ1 42 p = gr_v (D p) ∧ σ1 45 p = nI (od p) ∧ σ1 43 p = wf_ n T D p ∧ σ1 44 p = nI (O p)) →
      ∀ (k p : Nat), p + k = n * n → ∀ (τ : sw_Sg), fr_ [48] σ1 τ → (∀ q, q < p → τ 48 q = wk_ (nI (h q)) (nI sea) (nI (lv q)) (wf_ n T D q) st) →
      SW X 4 mX6_run sw_E0 (sw_Rv (fun u => fr_ [2, 6, 41, 42, 43, 44, 45, 46, 47, 48, 58] σ u ∧ ∃ T lv od D O, ww_F n h sea st T lv od D 41 42 43 45 48 u ∧ wo_ok n (n * n) T D O ∧ ∀ p, p < n * n → u 44 p = nI (O p))) 48 [.ref (sw_ad X 2), .ref (sw_ad X 1), .ref (sw_ad X 6), .int (nI sea), .int st, .int (nI p)] [] τ := by
    intro T lv od D O σ1 f1 hok hO hrow k
    induction k with
    | zero =>
      intro p hpk τ f2 hI
      obtain rfl : p = n * n := by omega
      have f3 : fr_ [2, 6, 41, 42, 43, 44, 45, 46, 47, 48, 58] σ τ := fr_tr (fr_sub f1 (by decide)) f2 (by decide)
      have hG3 := hG.fr f3 (by decide) (by decide) (by decide) (by decide)
      refine SW.iload (q := 50) (i := 5) dX6_run_48 rfl rfl ?_
      refine SW.aload_n (q := 51) (i := 1) dX6_run_50 rfl rfl rfl ?_
      refine SW.getI (q := 54) (i := 1) fX6_66 rfl rfl dX6_run_51 rfl ?_
      refine SW.icmp_ge (q := 57) (tgt := 90) dX6_run_54 (by decide) rfl (fun _ => ?_) (fun c54 => absurd ((by rw [hG3.1.2.2.2.1]; exact Int32.le_refl _)) c54)
      refine SW.vretR rfl dX6_run_90 ?_
      refine ⟨f3, T, lv, od, D, O, ⟨hok, fun p hp => ?_⟩, hO, fun p hp => ?_⟩
      · obtain ⟨a1, a2, a3, a4, a5, a6⟩ := hrow p hp
        rw [f2 41 (by decide), f2 42 (by decide), f2 43 (by decide), f2 45 (by decide)]
        exact ⟨a1, a2, a3, a4, a5, hI p hp⟩
      · rw [f2 44 (by decide)]; exact (hrow p hp).2.2.2.2.2
    | succ k ih =>
      intro p hpk τ f2 hI
      have f3 : fr_ [2, 6, 41, 42, 43, 44, 45, 46, 47, 48, 58] σ τ := fr_tr (fr_sub f1 (by decide)) f2 (by decide)
      have hG3 := hG.fr f3 (by decide) (by decide) (by decide) (by decide)
      refine SW.iload (q := 50) (i := 5) dX6_run_48 rfl rfl ?_
      refine SW.aload_n (q := 51) (i := 1) dX6_run_50 rfl rfl rfl ?_
      refine SW.getI (q := 54) (i := 1) fX6_66 rfl rfl dX6_run_51 rfl ?_
      refine SW.icmp_ge (q := 57) (tgt := 90) dX6_run_54 (by decide) rfl (fun c54 => absurd c54 ((by rw [hG3.1.2.2.2.1]; exact nI_ge (by omega) (by omega)))) (fun _ => ?_)
      refine SW.aload_n (q := 58) (i := 0) dX6_run_57 rfl rfl rfl ?_
      refine SW.getR (q := 61) (i := 2) (j := 22) fX6_38 rfl rfl dX6_run_58 rfl ?_
      refine SW.iload (q := 63) (i := 5) dX6_run_61 rfl rfl ?_
      refine SW.aload_n (q := 64) (i := 0) dX6_run_63 rfl rfl rfl ?_
      refine SW.aload_n (q := 65) (i := 1) dX6_run_64 rfl rfl rfl ?_
      refine SW.getR (q := 68) (i := 1) (j := 14) fX6_71 rfl rfl dX6_run_65 rfl ?_
      refine SW.iload (q := 70) (i := 5) dX6_run_68 rfl rfl ?_
      refine SW.cF (q := 73) (C_X3_atn (i := 14) (j := 40) (n := 576) rfl rfl (k := p) rfl (by omega)) vX6_74 (by decide) rfl rfl rfl rfl (Nat.le_of_ble_eq_true rfl) dX6_run_70 rfl ?_
      refine SW.iload (q := 75) (i := 5) dX6_run_73 rfl rfl ?_
      refine SW.iload_n (q := 76) (i := 3) dX6_run_75 rfl rfl rfl ?_
      refine SW.iload (q := 78) (i := 4) dX6_run_76 rfl rfl ?_
      refine SW.cF (q := 81) (C_X6_kindOf rfl (by omega)) vX6_78 (by decide) rfl rfl rfl rfl (Nat.le_of_ble_eq_true rfl) dX6_run_78 rfl ?_
      refine SW.cG (q := 84) (C_X3_putn (i := 22) (j := 48) (n := 576) rfl rfl (k := p) rfl (by omega)) vX6_82 (by decide) rfl rfl rfl rfl (Nat.le_of_ble_eq_true rfl) dX6_run_81 rfl ?_
      refine SW.iinc (q := 87) (v := _ + 1) dX6_run_84 rfl rfl (by decide) rfl ?_
      refine SW.goto (q := 48) dX6_run_87 (by decide) ?_
      refine SW.eq (by rw [nI_1]; rfl) rfl rfl (ih (p + 1) (by omega) _ (fr_up f2 (by decide)) (fun q hq => ?_))
      by_cases z : q = p
      · subst z
        obtain ⟨a1, a2, a3, a4, a5, a6⟩ := hrow q (by omega)
        rw [sw_i1, (hG3.2 q (by omega)).1, f2 41 (by decide), f2 43 (by decide), a1, a5]
      · rw [sw_o1 z]; exact hI q (by omega)
  refine SW.aload_n (q := 1) (i := 0) dX6_run_0 rfl rfl rfl ?_
  refine SW.iconst (q := 2) (v := 0) dX6_run_1 (by decide) rfl ?_
  refine SW.putI (q := 5) (i := 2) pX6_41 rfl rfl dX6_run_2 rfl ?_
  refine SW.aload_n (q := 6) (i := 2) dX6_run_5 rfl rfl rfl ?_
  refine SW.cG (q := 9) (C_X0_empty) vX6_45 (by decide) rfl rfl rfl rfl (Nat.le_of_ble_eq_true rfl) dX6_run_6 rfl ?_
  refine SW.aload_n (q := 10) (i := 0) dX6_run_9 rfl rfl rfl ?_
  refine SW.getR (q := 13) (i := 2) (j := 19) fX6_29 rfl rfl dX6_run_10 rfl ?_
  refine SW.bipush (q := 15) (v := (-6)) dX6_run_13 (by decide) rfl ?_
  refine SW.cG (q := 18) (C_X3_fill (i := 19) (j := 45) (n := 576) rfl rfl) vX6_50 (by decide) rfl rfl rfl rfl (Nat.le_of_ble_eq_true rfl) dX6_run_15 rfl ?_
  refine SW.aload_n (q := 19) (i := 0) dX6_run_18 rfl rfl rfl ?_
  refine SW.getR (q := 22) (i := 2) (j := 21) fX6_35 rfl rfl dX6_run_19 rfl ?_
  refine SW.ldc (q := 24) kX6_53 dX6_run_22 rfl ?_
  refine SW.cG (q := 27) (C_X3_fill (i := 21) (j := 47) (n := 576) rfl rfl) vX6_50 (by decide) rfl rfl rfl rfl (Nat.le_of_ble_eq_true rfl) dX6_run_24 rfl ?_
  generalize hσ2 : sw_row _ 47 _ = σ2
  have f2 : fr_ [2, 6, 45, 47] σ σ2 := by
    rw [← hσ2]
    intro i hi
    rw [sw_row_o (fun e => hi (by rw [e]; decide)), sw_row_o (fun e => hi (by rw [e]; decide)), sw_un (fun e => hi (by rw [e]; decide)), sw_un (fun e => hi (by rw [e]; decide))]
  refine SW.aload_n (q := 28) (i := 0) dX6_run_27 rfl rfl rfl ?_
  refine SW.aload_n (q := 29) (i := 1) dX6_run_28 rfl rfl rfl ?_
  refine SW.aload_n (q := 30) (i := 2) dX6_run_29 rfl rfl rfl ?_
  refine SW.iload_n (q := 31) (i := 3) dX6_run_30 rfl rfl rfl ?_
  refine SW.cV (q := 34) (C_X6_takeOutlets (h := h) (hG.fr f2 (by decide) (by decide) (by decide) (by decide)) rfl hs (by rw [← hσ2, sw_row_o (by decide), sw_row_o (by decide), sw_un (by decide), sw_i1]) (fun q hq => by rw [← hσ2, sw_row_o (by decide), sw_row_i, if_pos (by omega)]) (fun q hq => by rw [← hσ2, sw_row_i, if_pos (by omega)]) (by rw [← hσ2, sw_row_o (by decide), sw_row_o (by decide), sw_i1])) vX6_54 (by decide) rfl rfl rfl rfl (Nat.le_of_ble_eq_true rfl) dX6_run_31 rfl (fun u31 r31 => ?_)
  obtain ⟨f3, K, c, T, lv, od, D, O, hI, hc, hall⟩ := r31
  refine SW.aload_n (q := 35) (i := 0) dX6_run_34 rfl rfl rfl ?_
  refine SW.aload_n (q := 36) (i := 1) dX6_run_35 rfl rfl rfl ?_
  refine SW.aload_n (q := 37) (i := 2) dX6_run_36 rfl rfl rfl ?_
  refine SW.cV (q := 40) (C_X6_takeOthers hI hc hall) vX6_58 (by decide) rfl rfl rfl rfl (Nat.le_of_ble_eq_true rfl) dX6_run_37 rfl (fun u37 r37 => ?_)
  obtain ⟨f4, c', T', lv', od', D', O', hG4, hok, hR, hH, hO⟩ := r37
  obtain ⟨t1, t2, t3, t4⟩ := hR
  have tk : ∀ q, q < n * n → wt_tk T' (n * n) q := fun q hq => wt_all hok q hq
  have f5 : fr_ [2, 6, 41, 42, 43, 44, 45, 46, 47, 58] σ u37 := fr_tr (fr_tr (fr_sub f2 (by decide)) f3 (by decide)) f4 (by decide)
  refine SW.aload_n (q := 41) (i := 0) dX6_run_40 rfl rfl rfl ?_
  refine SW.aload_n (q := 42) (i := 1) dX6_run_41 rfl rfl rfl ?_
  refine SW.cV (q := 45) (C_X6_gatherFlow (T := T') (D := D') t1 h576 (fun j hj => ⟨t2 j hj, (hok.1 j hj).1, (t3 _ (hok.1 j hj).1 ⟨j, hj, rfl⟩).2.2.2.2.1, fun r hr => (wt_D hok ⟨j, hj, rfl⟩ hr).2.1⟩)) vX6_62 (by decide) rfl rfl rfl rfl (Nat.le_of_ble_eq_true rfl) dX6_run_42 rfl (fun u42 r42 => ?_)
  obtain ⟨f6, hfl⟩ := r42
  refine SW.iconst (q := 46) (v := 0) dX6_run_45 (by decide) rfl ?_
  refine SW.istore (q := 48) (i := 5) dX6_run_46 (by decide) rfl ?_
  refine loop T' lv' od' D' O' u42 (fr_tr f5 f6 (by decide)) hok hO (fun p hp => ?_) (n * n) 0 (by omega) u42 fr_rf (fun q hq => absurd hq (Nat.not_lt_zero _))
  obtain ⟨b1, b2, b3, b4, b5, b6⟩ := t3 p hp (tk p hp)
  rw [f6 41 (by decide), f6 42 (by decide), f6 44 (by decide), f6 45 (by decide)]
  exact ⟨b3, b4, b5, b1, hfl p hp, b6⟩
end WFIN
