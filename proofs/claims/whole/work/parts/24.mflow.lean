/-! WATER in the reference: flows, kinds, the whole method -/
section MFLOW
variable {X : sw_X} {R : Option Value → sw_Sg → Prop} {σ : sw_Sg} {x y v w st : Int32} {n p q K a b c l o m sea : Nat} {h T lv od O : Nat → Nat} {D : Nat → Option Nat} {r : Option Nat}
theorem mw_kinds (hM : gr_M σ n) (hs : σ 60 0 = nI sea) (s255 : sea ≤ 255) (hst : σ 60 1 = st) (hrow : ∀ p, p < n * n → σ 64 p = nI (h p) ∧ h p ≤ 400 ∧ σ 65 p = nI (lv p) ∧ σ 69 p = wf_ n T D p)
    (kk : ∀ u, fr_ [70] σ u → (∀ p, p < n * n → u 70 p = wk_ (nI (h p)) (nI sea) (nI (lv p)) (wf_ n T D p) st) → R none u) :
    ∀ (k p : Nat), p + k = n * n → ∀ (A B C : Value) (τ : sw_Sg), fr_ [70] σ τ → (∀ q, q < p → τ 70 q = wk_ (nI (h q)) (nI sea) (nI (lv q)) (wf_ n T D q) st) → SW X 3 mX8_layWater sw_E0 R 422 [.ref (sw_ad X 59), .int (nI p), A, B, C] [] τ := by
  have n24 : n ≤ 24 := hM.2.1
  have h576 := gr_576 n24
  have n4 := hM.1
  intro k
  induction k with
  | zero =>
    intro p hpk A B C τ hf hI
    obtain rfl : p = n * n := by omega
    have en : τ 59 1 = nI n := by rw [hf 59 (by decide)]; exact hM.2.2
    have last := kk τ hf hI
    refine SW.iload_n (q := 423) (i := 1) dX8_layWater_422 rfl rfl rfl ?_
    refine SW.aload_n (q := 424) (i := 0) dX8_layWater_423 rfl rfl rfl ?_
    refine SW.getI (q := 427) (i := 59) fX8_7 rfl rfl dX8_layWater_424 rfl ?_
    refine SW.aload_n (q := 428) (i := 0) dX8_layWater_427 rfl rfl rfl ?_
    refine SW.getI (q := 431) (i := 59) fX8_7 rfl rfl dX8_layWater_428 rfl ?_
    refine SW.imul (q := 432) dX8_layWater_431 rfl ?_
    refine SW.icmp_ge (q := 435) (tgt := 499) dX8_layWater_432 (by decide) rfl (fun _ => ?_) (fun c => absurd (by rw [en, pk_mul]; exact Int32.le_refl _) c)
    exact SW.vret rfl dX8_layWater_499 last
  | succ k ih =>
    intro p hpk A B C τ hf hI
    have hp : p < n * n := by omega
    have en : τ 59 1 = nI n := by rw [hf 59 (by decide)]; exact hM.2.2
    obtain ⟨a1, a2, a3, a4⟩ := hrow p hp
    have e64 : τ 64 p = nI (h p) := by rw [hf 64 (by decide)]; exact a1
    have e65 : τ 65 p = nI (lv p) := by rw [hf 65 (by decide)]; exact a3
    have e69 : τ 69 p = wf_ n T D p := by rw [hf 69 (by decide)]; exact a4
    have e60 : τ 60 0 = nI sea := by rw [hf 60 (by decide)]; exact hs
    have e61 : τ 60 1 = st := by rw [hf 60 (by decide)]; exact hst
    have hsea : decide (τ 64 p < τ 60 0) = decide (h p < sea) := by rw [e64, e60]; exact decide_eq_decide.mpr (nI_ltI (by omega) (by omega))
    have J : ∀ w, w = wk_ (nI (h p)) (nI sea) (nI (lv p)) (wf_ n T D p) st → SW X 3 mX8_layWater sw_E0 R 492 [.ref (sw_ad X 59), .int (nI p), A, B, C] [.int w, .int (nI p), .ref (sw_ad X 70)] τ := by
      rintro w rfl
      refine SW.iastN (q := 493) (k := p) rfl (rfl) (by omega) (by decide) dX8_layWater_492 rfl ?_
      refine SW.iinc (q := 496) (v := _ + 1) dX8_layWater_493 rfl rfl (by decide) rfl ?_
      refine SW.goto (q := 422) dX8_layWater_496 (by decide) ?_
      refine SW.eq (by rw [nI_1]; rfl) rfl rfl (ih (p + 1) (by omega) _ _ _ _ (fr_up hf (by decide)) (fun q hq => ?_))
      by_cases z : q = p
      · subst z; rw [sw_i1]
      · rw [sw_o1 z]; exact hI q (by omega)
    by_cases hlt : h p < sea
    · have c1 : nI (h p) < nI sea := nI_lt hlt (by omega)
      refine SW.iload_n (q := 423) (i := 1) dX8_layWater_422 rfl rfl rfl ?_
      refine SW.aload_n (q := 424) (i := 0) dX8_layWater_423 rfl rfl rfl ?_
      refine SW.getI (q := 427) (i := 59) fX8_7 rfl rfl dX8_layWater_424 rfl ?_
      refine SW.aload_n (q := 428) (i := 0) dX8_layWater_427 rfl rfl rfl ?_
      refine SW.getI (q := 431) (i := 59) fX8_7 rfl rfl dX8_layWater_428 rfl ?_
      refine SW.imul (q := 432) dX8_layWater_431 rfl ?_
      refine SW.icmp_ge (q := 435) (tgt := 499) dX8_layWater_432 (by decide) rfl (fun c432 => absurd c432 ((by rw [en, pk_mul]; exact nI_ge (by omega) (by omega)))) (fun _ => ?_)
      refine SW.aload_n (q := 436) (i := 0) dX8_layWater_435 rfl rfl rfl ?_
      refine SW.getR (q := 439) (i := 59) (j := 70) fX8_44 rfl rfl dX8_layWater_436 rfl ?_
      refine SW.iload_n (q := 440) (i := 1) dX8_layWater_439 rfl rfl rfl ?_
      refine SW.aload_n (q := 441) (i := 0) dX8_layWater_440 rfl rfl rfl ?_
      refine SW.iload_n (q := 442) (i := 1) dX8_layWater_441 rfl rfl rfl ?_
      refine SW.cF (q := 445) (C_X8_isSea rfl (by omega)) vX8_117 (by decide) rfl rfl rfl rfl (Nat.le_of_ble_eq_true rfl) dX8_layWater_442 rfl ?_
      rw [hsea, decide_eq_true hlt]
      refine SW.if_eq (q := 448) (tgt := 452) dX8_layWater_445 (by decide) rfl (fun c445 => absurd c445 ((by decide))) (fun _ => ?_)
      refine SW.iconst (q := 449) (v := 1) dX8_layWater_448 (by decide) rfl ?_
      refine SW.goto (q := 492) dX8_layWater_449 (by decide) ?_
      exact J _ (by rw [wk_, if_pos c1])
    · have c1 : ¬ nI (h p) < nI sea := nI_nlt (by omega) (by omega)
      refine SW.iload_n (q := 423) (i := 1) dX8_layWater_422 rfl rfl rfl ?_
      refine SW.aload_n (q := 424) (i := 0) dX8_layWater_423 rfl rfl rfl ?_
      refine SW.getI (q := 427) (i := 59) fX8_7 rfl rfl dX8_layWater_424 rfl ?_
      refine SW.aload_n (q := 428) (i := 0) dX8_layWater_427 rfl rfl rfl ?_
      refine SW.getI (q := 431) (i := 59) fX8_7 rfl rfl dX8_layWater_428 rfl ?_
      refine SW.imul (q := 432) dX8_layWater_431 rfl ?_
      refine SW.icmp_ge (q := 435) (tgt := 499) dX8_layWater_432 (by decide) rfl (fun c432 => absurd c432 ((by rw [en, pk_mul]; exact nI_ge (by omega) (by omega)))) (fun _ => ?_)
      refine SW.aload_n (q := 436) (i := 0) dX8_layWater_435 rfl rfl rfl ?_
      refine SW.getR (q := 439) (i := 59) (j := 70) fX8_44 rfl rfl dX8_layWater_436 rfl ?_
      refine SW.iload_n (q := 440) (i := 1) dX8_layWater_439 rfl rfl rfl ?_
      refine SW.aload_n (q := 441) (i := 0) dX8_layWater_440 rfl rfl rfl ?_
      refine SW.iload_n (q := 442) (i := 1) dX8_layWater_441 rfl rfl rfl ?_
      refine SW.cF (q := 445) (C_X8_isSea rfl (by omega)) vX8_117 (by decide) rfl rfl rfl rfl (Nat.le_of_ble_eq_true rfl) dX8_layWater_442 rfl ?_
      rw [hsea, decide_eq_false hlt]
      refine SW.if_eq (q := 448) (tgt := 452) dX8_layWater_445 (by decide) rfl (fun _ => ?_) (fun c445 => absurd (rfl) c445)
      refine SW.aload_n (q := 453) (i := 0) dX8_layWater_452 rfl rfl rfl ?_
      refine SW.getR (q := 456) (i := 59) (j := 65) fX8_29 rfl rfl dX8_layWater_453 rfl ?_
      refine SW.iload_n (q := 457) (i := 1) dX8_layWater_456 rfl rfl rfl ?_
      refine SW.ialdN (q := 458) (k := p) rfl (rfl) (by omega) (by decide) dX8_layWater_457 rfl ?_
      refine SW.aload_n (q := 459) (i := 0) dX8_layWater_458 rfl rfl rfl ?_
      refine SW.getR (q := 462) (i := 59) (j := 64) fX8_26 rfl rfl dX8_layWater_459 rfl ?_
      refine SW.iload_n (q := 463) (i := 1) dX8_layWater_462 rfl rfl rfl ?_
      refine SW.ialdN (q := 464) (k := p) rfl (rfl) (by omega) (by decide) dX8_layWater_463 rfl ?_
      refine SW.icmp_le (q := 467) (tgt := 471) dX8_layWater_464 (by decide) rfl (fun c464 => ?_) (fun c464 => ?_)
      · refine SW.aload_n (q := 472) (i := 0) dX8_layWater_471 rfl rfl rfl ?_
        refine SW.getR (q := 475) (i := 59) (j := 69) fX8_41 rfl rfl dX8_layWater_472 rfl ?_
        refine SW.iload_n (q := 476) (i := 1) dX8_layWater_475 rfl rfl rfl ?_
        refine SW.ialdN (q := 477) (k := p) rfl (rfl) (by omega) (by decide) dX8_layWater_476 rfl ?_
        refine SW.aload_n (q := 478) (i := 0) dX8_layWater_477 rfl rfl rfl ?_
        refine SW.getR (q := 481) (i := 59) (j := 60) fX8_13 rfl rfl dX8_layWater_478 rfl ?_
        refine SW.iconst (q := 482) (v := 1) dX8_layWater_481 (by decide) rfl ?_
        refine SW.ialdN (q := 483) (k := 1) rfl (rfl) (by decide) (by decide) dX8_layWater_482 rfl ?_
        refine SW.icmp_lt (q := 486) (tgt := 490) dX8_layWater_483 (by decide) rfl (fun c483 => ?_) (fun c483 => ?_)
        · refine SW.bipush (q := 492) (v := 8) dX8_layWater_490 (by decide) rfl ?_
          rw [e65, e64] at c464
          first
          | (rw [e69, e61] at c483
             first
             | (refine J _ ?_; rw [wk_, if_neg c1, if_neg (Int32.not_lt.mpr c464), if_pos (Int32.not_lt.mp c483)]; done)
             | (refine J _ ?_; rw [wk_, if_neg c1, if_neg (Int32.not_lt.mpr c464), if_neg (Int32.not_le.mpr c483)]; done))
          | (refine J _ ?_; rw [wk_, if_neg c1, if_pos (Int32.not_le.mp c464)])
        · refine SW.iconst (q := 487) (v := 4) dX8_layWater_486 (by decide) rfl ?_
          refine SW.goto (q := 492) dX8_layWater_487 (by decide) ?_
          rw [e65, e64] at c464
          first
          | (rw [e69, e61] at c483
             first
             | (refine J _ ?_; rw [wk_, if_neg c1, if_neg (Int32.not_lt.mpr c464), if_pos (Int32.not_lt.mp c483)]; done)
             | (refine J _ ?_; rw [wk_, if_neg c1, if_neg (Int32.not_lt.mpr c464), if_neg (Int32.not_le.mpr c483)]; done))
          | (refine J _ ?_; rw [wk_, if_neg c1, if_pos (Int32.not_le.mp c464)])
      · refine SW.iconst (q := 468) (v := 2) dX8_layWater_467 (by decide) rfl ?_
        refine SW.goto (q := 492) dX8_layWater_468 (by decide) ?_
        rw [e65, e64] at c464
        first
        | (rw [e69, e61] at c483
           first
           | (refine J _ ?_; rw [wk_, if_neg c1, if_neg (Int32.not_lt.mpr c464), if_pos (Int32.not_lt.mp c483)]; done)
           | (refine J _ ?_; rw [wk_, if_neg c1, if_neg (Int32.not_lt.mpr c464), if_neg (Int32.not_le.mpr c483)]; done))
        | (refine J _ ?_; rw [wk_, if_neg c1, if_pos (Int32.not_le.mp c464)])
theorem mw_flows (hM : gr_M σ n) (hR : mm_R n (n * n) T lv od D σ) (hok : wt_ok n h sea (n * n) T lv od D)
    (kk : ∀ (A B C : Value) (u : sw_Sg), fr_ [69] σ u → (∀ p, p < n * n → u 69 p = wf_ n T D p) → SW X 3 mX8_layWater sw_E0 R 422 [.ref (sw_ad X 59), .int 0, A, B, C] [] u) (A B C E : Value) : SW X 3 mX8_layWater sw_E0 R 334 [.ref (sw_ad X 59), A, B, C, E] [] σ := by
  have n24 : n ≤ 24 := hM.2.1
  have h576 := gr_576 n24
  have n4 := hM.1
  obtain ⟨r1, r2, r3, r4⟩ := hR
  have tk : ∀ q, q < n * n → wt_tk T (n * n) q := fun q hq => wt_all hok q hq
  have L2 : ∀ (k : Nat) (A B C : Value) (τ : sw_Sg), k ≤ n * n → fr_ [69] σ τ → (∀ p, p < n * n → wf_acc T D k (τ 69) p = wf_ n T D p) → SW X 3 mX8_layWater sw_E0 R 374 [.ref (sw_ad X 59), .int (nI k - 1), A, B, C] [] τ := by
    intro k
    induction k with
    | zero =>
      intro A B C τ hk hf hI
      refine SW.iload_n (q := 375) (i := 1) dX8_layWater_374 rfl rfl rfl ?_
      refine SW.if_lt (q := 378) (tgt := 420) dX8_layWater_375 (by decide) rfl (fun _ => ?_) (fun c375 => absurd ((by decide)) c375)
      refine SW.iconst (q := 421) (v := 0) dX8_layWater_420 (by decide) rfl ?_
      refine SW.istore_n (q := 422) (i := 1) dX8_layWater_421 rfl (by decide) rfl ?_
      exact kk _ _ _ τ hf hI
    | succ k ih =>
      intro A B C τ hk hf hI
      have tl := (hok.1 k (by omega)).1
      have e68 := r2 k (by omega)
      have e66 := (r3 (T k) tl (tk _ tl)).2.2.2.2
      refine SW.eq (L' := [.ref (sw_ad X 59), .int (nI k), A, B, C]) (by rw [nI_pred]) rfl rfl ?_
      cases hd : D (T k) with
      | none =>
        refine SW.iload_n (q := 375) (i := 1) dX8_layWater_374 rfl rfl rfl ?_
        refine SW.if_lt (q := 378) (tgt := 420) dX8_layWater_375 (by decide) rfl (fun c375 => absurd c375 ((nI_pos (by omega)))) (fun _ => ?_)
        refine SW.aload_n (q := 379) (i := 0) dX8_layWater_378 rfl rfl rfl ?_
        refine SW.getR (q := 382) (i := 59) (j := 68) fX8_38 rfl rfl dX8_layWater_379 rfl ?_
        refine SW.iload_n (q := 383) (i := 1) dX8_layWater_382 rfl rfl rfl ?_
        refine SW.ialdN (q := 384) (k := k) rfl (rfl) (by omega) (by decide) dX8_layWater_383 rfl ?_
        rw [hf 68 (by decide), e68]
        refine SW.istore_n (q := 385) (i := 2) dX8_layWater_384 rfl (by decide) rfl ?_
        refine SW.aload_n (q := 386) (i := 0) dX8_layWater_385 rfl rfl rfl ?_
        refine SW.getR (q := 389) (i := 59) (j := 66) fX8_32 rfl rfl dX8_layWater_386 rfl ?_
        refine SW.iload_n (q := 390) (i := 2) dX8_layWater_389 rfl rfl rfl ?_
        refine SW.ialdN (q := 391) (k := T k) rfl (rfl) (by omega) (by decide) dX8_layWater_390 rfl ?_
        refine SW.if_lt (q := 394) (tgt := 414) dX8_layWater_391 (by decide) rfl (fun _ => ?_) (fun c391 => absurd ((by rw [hf 66 (by decide), e66, hd]; decide)) c391)
        refine SW.iinc (q := 417) (v := _ + (-1)) dX8_layWater_414 rfl rfl (by decide) rfl ?_
        refine SW.goto (q := 374) dX8_layWater_417 (by decide) ?_
        exact SW.eq (by rw [show nI k + (-1) = nI k - 1 from (Int32.sub_eq_add_neg ..).symm]; rfl) rfl rfl (ih _ _ _ τ (by omega) hf (fun p hp => by have := hI p hp; simp only [wf_acc, hd] at this; exact this))
      | some r =>
        have hr := (wt_D hok (tk _ tl) hd).2.1
        have e66' : τ 66 (T k) = nI r := by rw [hf 66 (by decide), e66, hd]; rfl
        refine SW.iload_n (q := 375) (i := 1) dX8_layWater_374 rfl rfl rfl ?_
        refine SW.if_lt (q := 378) (tgt := 420) dX8_layWater_375 (by decide) rfl (fun c375 => absurd c375 ((nI_pos (by omega)))) (fun _ => ?_)
        refine SW.aload_n (q := 379) (i := 0) dX8_layWater_378 rfl rfl rfl ?_
        refine SW.getR (q := 382) (i := 59) (j := 68) fX8_38 rfl rfl dX8_layWater_379 rfl ?_
        refine SW.iload_n (q := 383) (i := 1) dX8_layWater_382 rfl rfl rfl ?_
        refine SW.ialdN (q := 384) (k := k) rfl (rfl) (by omega) (by decide) dX8_layWater_383 rfl ?_
        rw [hf 68 (by decide), e68]
        refine SW.istore_n (q := 385) (i := 2) dX8_layWater_384 rfl (by decide) rfl ?_
        refine SW.aload_n (q := 386) (i := 0) dX8_layWater_385 rfl rfl rfl ?_
        refine SW.getR (q := 389) (i := 59) (j := 66) fX8_32 rfl rfl dX8_layWater_386 rfl ?_
        refine SW.iload_n (q := 390) (i := 2) dX8_layWater_389 rfl rfl rfl ?_
        refine SW.ialdN (q := 391) (k := T k) rfl (rfl) (by omega) (by decide) dX8_layWater_390 rfl ?_
        refine SW.if_lt (q := 394) (tgt := 414) dX8_layWater_391 (by decide) rfl (fun c391 => absurd c391 ((by rw [e66']; exact nI_pos (by omega)))) (fun _ => ?_)
        refine SW.aload_n (q := 395) (i := 0) dX8_layWater_394 rfl rfl rfl ?_
        refine SW.getR (q := 398) (i := 59) (j := 69) fX8_41 rfl rfl dX8_layWater_395 rfl ?_
        refine SW.aload_n (q := 399) (i := 0) dX8_layWater_398 rfl rfl rfl ?_
        refine SW.getR (q := 402) (i := 59) (j := 66) fX8_32 rfl rfl dX8_layWater_399 rfl ?_
        refine SW.iload_n (q := 403) (i := 2) dX8_layWater_402 rfl rfl rfl ?_
        refine SW.ialdN (q := 404) (k := T k) rfl (rfl) (by omega) (by decide) dX8_layWater_403 rfl ?_
        refine SW.dup2 (q := 405) dX8_layWater_404 rfl rfl rfl ?_
        refine SW.ialdN (q := 406) (k := r) rfl (e66') (by omega) (by decide) dX8_layWater_405 rfl ?_
        refine SW.aload_n (q := 407) (i := 0) dX8_layWater_406 rfl rfl rfl ?_
        refine SW.getR (q := 410) (i := 59) (j := 69) fX8_41 rfl rfl dX8_layWater_407 rfl ?_
        refine SW.iload_n (q := 411) (i := 2) dX8_layWater_410 rfl rfl rfl ?_
        refine SW.ialdN (q := 412) (k := T k) rfl (rfl) (by omega) (by decide) dX8_layWater_411 rfl ?_
        refine SW.iadd (q := 413) dX8_layWater_412 rfl ?_
        refine SW.iastN (q := 414) (k := r) rfl (e66') (by omega) (by decide) dX8_layWater_413 rfl ?_
        refine SW.iinc (q := 417) (v := _ + (-1)) dX8_layWater_414 rfl rfl (by decide) rfl ?_
        refine SW.goto (q := 374) dX8_layWater_417 (by decide) ?_
        refine SW.eq (by rw [show nI k + (-1) = nI k - 1 from (Int32.sub_eq_add_neg ..).symm]; rfl) rfl rfl (ih _ _ _ _ (by omega) (fr_up hf (by decide)) (fun p hp => ?_))
        have := hI p hp
        simp only [wf_acc, hd] at this
        rw [sw_up_i]
        exact this
  have L1 : ∀ (k p : Nat), p + k = n * n → ∀ (A B C : Value) (τ : sw_Sg), fr_ [69] σ τ → (∀ q, q < p → τ 69 q = 1) → SW X 3 mX8_layWater sw_E0 R 336 [.ref (sw_ad X 59), .int (nI p), A, B, C] [] τ := by
    intro k
    induction k with
    | zero =>
      intro p hpk A B C τ hf hI
      obtain rfl : p = n * n := by omega
      have en : τ 59 1 = nI n := by rw [hf 59 (by decide)]; exact hM.2.2
      refine SW.iload_n (q := 337) (i := 1) dX8_layWater_336 rfl rfl rfl ?_
      refine SW.aload_n (q := 338) (i := 0) dX8_layWater_337 rfl rfl rfl ?_
      refine SW.getI (q := 341) (i := 59) fX8_7 rfl rfl dX8_layWater_338 rfl ?_
      refine SW.aload_n (q := 342) (i := 0) dX8_layWater_341 rfl rfl rfl ?_
      refine SW.getI (q := 345) (i := 59) fX8_7 rfl rfl dX8_layWater_342 rfl ?_
      refine SW.imul (q := 346) dX8_layWater_345 rfl ?_
      refine SW.icmp_ge (q := 349) (tgt := 362) dX8_layWater_346 (by decide) rfl (fun _ => ?_) (fun c346 => absurd ((by rw [en, pk_mul]; exact Int32.le_refl _)) c346)
      refine SW.aload_n (q := 363) (i := 0) dX8_layWater_362 rfl rfl rfl ?_
      refine SW.getI (q := 366) (i := 59) fX8_7 rfl rfl dX8_layWater_363 rfl ?_
      refine SW.aload_n (q := 367) (i := 0) dX8_layWater_366 rfl rfl rfl ?_
      refine SW.getI (q := 370) (i := 59) fX8_7 rfl rfl dX8_layWater_367 rfl ?_
      refine SW.imul (q := 371) dX8_layWater_370 rfl ?_
      refine SW.iconst (q := 372) (v := 1) dX8_layWater_371 (by decide) rfl ?_
      refine SW.isub (q := 373) dX8_layWater_372 rfl ?_
      refine SW.istore_n (q := 374) (i := 1) dX8_layWater_373 rfl (by decide) rfl ?_
      refine SW.eq (by rw [en, pk_mul]; rfl) rfl rfl (L2 (n * n) _ _ _ τ (Nat.le_refl _) hf (fun p hp => ?_))
      refine wf_congr (N := n * n) (n * n) (fun j hj => ⟨(hok.1 j hj).1, rfl, rfl, fun r hr => (wt_D hok ⟨j, hj, rfl⟩ hr).2.1⟩) _ _ (fun p hp => hI p hp) p hp
    | succ k ih =>
      intro p hpk A B C τ hf hI
      have en : τ 59 1 = nI n := by rw [hf 59 (by decide)]; exact hM.2.2
      refine SW.iload_n (q := 337) (i := 1) dX8_layWater_336 rfl rfl rfl ?_
      refine SW.aload_n (q := 338) (i := 0) dX8_layWater_337 rfl rfl rfl ?_
      refine SW.getI (q := 341) (i := 59) fX8_7 rfl rfl dX8_layWater_338 rfl ?_
      refine SW.aload_n (q := 342) (i := 0) dX8_layWater_341 rfl rfl rfl ?_
      refine SW.getI (q := 345) (i := 59) fX8_7 rfl rfl dX8_layWater_342 rfl ?_
      refine SW.imul (q := 346) dX8_layWater_345 rfl ?_
      refine SW.icmp_ge (q := 349) (tgt := 362) dX8_layWater_346 (by decide) rfl (fun c346 => absurd c346 ((by rw [en, pk_mul]; exact nI_ge (by omega) (by omega)))) (fun _ => ?_)
      refine SW.aload_n (q := 350) (i := 0) dX8_layWater_349 rfl rfl rfl ?_
      refine SW.getR (q := 353) (i := 59) (j := 69) fX8_41 rfl rfl dX8_layWater_350 rfl ?_
      refine SW.iload_n (q := 354) (i := 1) dX8_layWater_353 rfl rfl rfl ?_
      refine SW.iconst (q := 355) (v := 1) dX8_layWater_354 (by decide) rfl ?_
      refine SW.iastN (q := 356) (k := p) rfl (rfl) (by omega) (by decide) dX8_layWater_355 rfl ?_
      refine SW.iinc (q := 359) (v := _ + 1) dX8_layWater_356 rfl rfl (by decide) rfl ?_
      refine SW.goto (q := 336) dX8_layWater_359 (by decide) ?_
      refine SW.eq (by rw [nI_1]; rfl) rfl rfl (ih (p + 1) (by omega) _ _ _ _ (fr_up hf (by decide)) (fun q hq => ?_))
      by_cases z : q = p
      · subst z; rw [sw_i1]
      · rw [sw_o1 z]; exact hI q (by omega)
  refine SW.iconst (q := 335) (v := 0) dX8_layWater_334 (by decide) rfl ?_
  refine SW.istore_n (q := 336) (i := 1) dX8_layWater_335 rfl (by decide) rfl ?_
  exact L1 (n * n) 0 (by omega) _ _ _ σ fr_rf (fun q hq => absurd hq (Nat.not_lt_zero _))
theorem C_X8_layWater (hM : gr_M σ n) (e2 : σ 59 2 = nI a) (e3 : σ 59 3 = nI b) (ha : a ≤ 100000) (hb : b ≤ 100000) (hc : σ 59 6 = nI c) (c30 : c ≤ 30) (hs : σ 60 0 = nI sea) (s255 : sea ≤ 255) (hst : σ 60 1 = st) (hh : ∀ p, p < n * n → gr_ht (σ 59 0) (σ 61) (σ 62) (σ 63) c a b n p = nI (h p) ∧ h p ≤ 400) :
    sw_Mv X 3 mX8_layWater [.ref (sw_ad X 59)] σ (fun u => fr_ [59, 64, 65, 66, 67, 68, 69, 70] σ u ∧ fs_ [18] σ u ∧ (∀ p, p < n * n → u 64 p = nI (h p)) ∧ ∃ T lv od D, ww_F n h sea st T lv od D 65 66 69 67 70 u) := by
  have n24 : n ≤ 24 := hM.2.1
  have h576 := gr_576 n24
  have n4 := hM.1
  refine sw_ME.ofF (by decide +kernel) rfl (Nat.le_of_ble_eq_true rfl) rfl ?_
  have f0 : fr_ [59] σ (sw_up σ 59 18 0) := fr_up fr_rf (by decide)
  have s0 : fs_ [18] σ (sw_up σ 59 18 0) := fs_ups fs_rf (by decide)
  have hM0 : gr_M (sw_up σ 59 18 0) n := ⟨hM.1, hM.2.1, by rw [s0 1 (by decide)]; exact hM.2.2⟩
  refine SW.aload_n (q := 1) (i := 0) dX8_layWater_0 rfl rfl rfl ?_
  refine SW.iconst (q := 2) (v := 0) dX8_layWater_1 (by decide) rfl ?_
  refine SW.putI (q := 5) (i := 59) pX8_111 rfl rfl dX8_layWater_2 rfl ?_
  refine SW.iconst (q := 6) (v := 0) dX8_layWater_5 (by decide) rfl ?_
  refine SW.istore_n (q := 7) (i := 1) dX8_layWater_6 rfl (by decide) rfl ?_
  refine mw_heights (h := h) hM0 (by rw [s0 2 (by decide)]; exact e2) (by rw [s0 3 (by decide)]; exact e3) ha hb (by rw [s0 6 (by decide)]; exact hc) c30 (fun p hp => by rw [s0 0 (by decide), f0 61 (by decide), f0 62 (by decide), f0 63 (by decide)]; exact hh p hp) (fun A B C u1 f1 hI1 => ?_) (n * n) 0 (by omega) _ _ _ _ fr_rf (fun q hq => absurd hq (Nat.not_lt_zero _))
  refine SW.iconst (q := 159) (v := 0) dX8_layWater_158 (by decide) rfl ?_
  refine SW.istore_n (q := 160) (i := 1) dX8_layWater_159 rfl (by decide) rfl ?_
  have s1 : fs_ [18] σ u1 := fs_tr s0 (ks' := []) (fun j _ => by rw [f1 59 (by decide)]) (by decide)
  have f01 : fr_ [59, 64, 67] σ u1 := fr_tr (fr_sub f0 (by decide)) f1 (by decide)
  have hM1 : gr_M u1 n := ⟨hM.1, hM.2.1, by rw [s1 1 (by decide)]; exact hM.2.2⟩
  have hh1 : ∀ p, p < n * n → u1 64 p = nI (h p) ∧ h p ≤ 400 := fun p hp => ⟨(hI1 p hp).1, (hh p hp).2⟩
  refine mw_outlets (h := h) hM1 (by rw [f01 60 (by decide)]; exact hs) s255 hh1 (by rw [f1 59 (by decide), sw_i1]) (fun p hp => (hI1 p hp).2) (fun A B C u2 K T lv od D f2 s2 hok hR hall => ?_) A B C
  have hK : K ≤ n * n := inj_le (fun i hi => (hok.1 i hi).1) (fun _ _ hi hj e => wt_inj hok.1 hi hj e)
  refine mw_others (h := h) hM1 hh1 (fun A B C E u3 T lv od D f3 s3 hok hR => ?_) (n * n - K) K (by omega) _ _ _ _ u2 T lv od D f2 s2 hok hR hall
  have s3' : fs_ [18] σ u3 := fs_tr s1 s3 (by decide)
  have hM3 : gr_M u3 n := ⟨hM.1, hM.2.1, by rw [s3' 1 (by decide)]; exact hM.2.2⟩
  refine mw_flows (h := h) (sea := sea) (T := T) (lv := lv) (od := od) (D := D) hM3 hR hok (fun A B C u4 f4 hfl => ?_) A B C E
  have s4 : fs_ [18] σ u4 := fs_tr s3' (ks' := []) (fun j _ => by rw [f4 59 (by decide)]) (by decide)
  have hM4 : gr_M u4 n := ⟨hM.1, hM.2.1, by rw [s4 1 (by decide)]; exact hM.2.2⟩
  have tk : ∀ q, q < n * n → wt_tk T (n * n) q := fun q hq => wt_all hok q hq
  have f14 : fr_ [59, 65, 66, 67, 68, 69] u1 u4 := fr_tr (fr_sub f3 (by decide)) f4 (by decide)
  have f04 : fr_ [59, 64, 65, 66, 67, 68, 69] σ u4 := fr_tr (fr_sub f01 (by decide)) f14 (by decide)
  have row : ∀ p, p < n * n → u4 64 p = nI (h p) ∧ h p ≤ 400 ∧ u4 65 p = nI (lv p) ∧ u4 69 p = wf_ n T D p := fun p hp => ⟨by rw [f14 64 (by decide)]; exact (hh1 p hp).1, (hh p hp).2, by rw [f4 65 (by decide)]; exact (hR.2.2.1 p hp (tk p hp)).2.2.1, hfl p hp⟩
  refine mw_kinds (h := h) (sea := sea) (st := st) (lv := lv) (T := T) (D := D) hM4 (by rw [f04 60 (by decide)]; exact hs) s255 (by rw [f04 60 (by decide)]; exact hst) row (fun u5 f5 hk => ⟨rfl, ?_⟩) (n * n) 0 (by omega) A B C u4 fr_rf (fun q hq => absurd hq (Nat.not_lt_zero _))
  refine ⟨fr_tr (fr_sub f04 (by decide)) f5 (by decide), fs_tr s4 (ks' := []) (fun j _ => by rw [f5 59 (by decide)]) (by decide), fun p hp => ?_, T, lv, od, D, hok, fun p hp => ?_⟩
  · rw [f5 64 (by decide)]; exact (row p hp).1
  · obtain ⟨q1, q2, q3, q4, q5⟩ := hR.2.2.1 p hp (tk p hp)
    rw [f5 65 (by decide), f5 66 (by decide), f5 67 (by decide), f5 69 (by decide), f4 65 (by decide), f4 66 (by decide), f4 67 (by decide)]
    exact ⟨q3, q4, q5, q1, hfl p hp, hk p hp⟩
end MFLOW
