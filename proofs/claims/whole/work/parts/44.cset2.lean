/-! the class's own methods: changes, towns, what is told -/
def cd_ (u : sw_Sg) (i : Nat) (what : Int32) : Int32 := if what = 0 then u 34 i else if what = 1 then u 35 i else if what = 2 then u 36 i else -1002
def td_ (u : sw_Sg) (what : Int32) : Int32 := if what = 0 then u 1 1 else if what = 1 then u 1 3 else if what = 2 then u 1 4 else if what = 3 then u 33 0 else if what = 4 then u 33 1 else if what = 5 then u 33 2 else if what = 6 then u 33 3 else if what = 7 then u 4 2 else if what = 8 then u 0 7 else if what = 9 then u 1 5 else if what = 10 then u 1 0 else -2
section CSET2
variable {X : sw_X} {σ τ u : sw_Sg} {x y v w st what : Int32} {n a b c sea g br wn k s M p : Nat} {L : List Nat}
theorem C_X7_towns (hI : cI_ n a b c sea g br wn k σ) :
    sw_Mi X 6 mX7_towns [.ref (sw_ad X 0), .int x] σ (fun v u => fc_ σ u ∧ ce_ σ u ∧ ((¬ ∃ i, i ≤ 6 ∧ x = nI i) → v = -2 ∧ cI_ n a b c sea g br wn k u) ∧ ∀ i, i ≤ 6 → x = nI i → v = u 4 2 ∧ cI_ n a b c sea g br i 3 u) := by
  have hI0 := hI
  obtain ⟨hK, hk, k4, i1, i2, -, -⟩ := hI
  refine sw_ME.ofF (by decide +kernel) rfl (Nat.le_of_ble_eq_true rfl) rfl ?_
  have W := wi_N (x := x) (lo := 0) (hi := 6) (by omega) (by omega)
  by_cases hw : ∃ i, i ≤ 6 ∧ x = nI i
  · obtain ⟨i, i6, rfl⟩ := hw
    have f0 : fr_ [0] σ (sw_up (sw_up σ 0 7 (nI i)) 0 8 (nI (min k 2))) := fr_up (fr_up fr_rf (by decide)) (by decide)
    have e08 : sw_min (sw_up σ 0 7 (nI i) 0 8) 2 = nI (min k 2) := by rw [sw_o1 (by decide), hk, show (2 : Int32) = nI 2 from rfl, sw_min_N (by omega) (by omega)]
    have hI2 : cI_ n a b c sea g br i (min k 2) (sw_up (sw_up σ 0 7 (nI i)) 0 8 (nI (min k 2))) := by
      refine ⟨ck_s ?_, sw_i1, by omega, fun z => (i1 (by omega)).fr f0 (by decide) (by decide) (by decide) (by decide), fun z => (i2 (by omega)).fr f0 (by decide), fun z => by omega, fun z => by omega⟩
      obtain ⟨q1, q2, ⟨q3, q4⟩, q5, q6⟩ := hK
      unfold ck_ gr_chs
      rw [sw_i1, sw_un (by decide), sw_un (by decide), sw_un (by decide), sw_un (by decide)]
      exact ⟨q1, q2, ⟨q3, q4⟩, q5, rfl, i6⟩
    refine SW.iload_n (q := 1) (i := 1) dX7_towns_0 rfl rfl rfl ?_
    refine SW.iconst (q := 2) (v := 0) dX7_towns_1 (by decide) rfl ?_
    refine SW.bipush (q := 4) (v := 6) dX7_towns_2 (by decide) rfl ?_
    refine SW.sF (q := 7) (C_X7_within) vX7_82 (by decide) rfl rfl (Nat.le_of_ble_eq_true rfl) dX7_towns_4 rfl ?_
    refine SW.if_ne (q := 10) (tgt := 13) dX7_towns_7 (by decide) rfl (fun _ => ?_) (fun c7 => absurd c7 ((W.mpr ⟨i, by omega, i6, rfl⟩)))
    refine SW.aload_n (q := 14) (i := 0) dX7_towns_13 rfl rfl rfl ?_
    refine SW.iload_n (q := 15) (i := 1) dX7_towns_14 rfl rfl rfl ?_
    refine SW.putI (q := 18) (i := 0) pX7_60 rfl rfl dX7_towns_15 rfl ?_
    refine SW.aload_n (q := 19) (i := 0) dX7_towns_18 rfl rfl rfl ?_
    refine SW.iconst (q := 20) (v := 2) dX7_towns_19 (by decide) rfl ?_
    refine SW.cG (q := 23) (C_X7_keepUpTo) vX7_78 (by decide) rfl rfl rfl rfl (Nat.le_of_ble_eq_true rfl) dX7_towns_20 rfl ?_
    rw [e08]
    refine SW.aload_n (q := 24) (i := 0) dX7_towns_23 rfl rfl rfl ?_
    refine SW.iconst (q := 25) (v := 3) dX7_towns_24 (by decide) rfl ?_
    refine SW.cV (q := 28) (C_X7_makeUpTo (s := 3) (M := 3) hI2 rfl (by decide) (Or.inr ⟨rfl, by omega⟩)) vX7_110 (by decide) rfl rfl rfl rfl (Nat.le_of_ble_eq_true rfl) dX7_towns_25 rfl (fun u25 r25 => ?_)
    obtain ⟨g1, g2⟩ := r25
    refine SW.aload_n (q := 29) (i := 0) dX7_towns_28 rfl rfl rfl ?_
    refine SW.getR (q := 32) (i := 0) (j := 4) fX7_33 rfl rfl dX7_towns_29 rfl ?_
    refine SW.getI (q := 35) (i := 4) fX7_173 rfl rfl dX7_towns_32 rfl ?_
    refine SW.iretR rfl rfl dX7_towns_35 ?_
    refine ⟨fc_fr (fr_tr (fr_sub f0 (by decide)) g1 (by decide) : fr_ [0, 2, 3, 4, 5, 6, 37, 38, 39, 40, 41, 42, 43, 44, 45, 46, 47, 48, 49, 50, 51, 52, 53, 54, 55, 56, 57, 58] σ u25) (by decide), ce_fr (fr_tr (fr_sub f0 (by decide)) g1 (by decide) : fr_ [0, 2, 3, 4, 5, 6, 37, 38, 39, 40, 41, 42, 43, 44, 45, 46, 47, 48, 49, 50, 51, 52, 53, 54, 55, 56, 57, 58] σ u25) (by decide), fun z => absurd ⟨i, i6, rfl⟩ z, fun i' h' e => ?_⟩
    rw [nI_eq (by omega) (by omega)] at e
    subst e
    exact ⟨rfl, g2⟩
  · refine SW.iload_n (q := 1) (i := 1) dX7_towns_0 rfl rfl rfl ?_
    refine SW.iconst (q := 2) (v := 0) dX7_towns_1 (by decide) rfl ?_
    refine SW.bipush (q := 4) (v := 6) dX7_towns_2 (by decide) rfl ?_
    refine SW.sF (q := 7) (C_X7_within) vX7_82 (by decide) rfl rfl (Nat.le_of_ble_eq_true rfl) dX7_towns_4 rfl ?_
    refine SW.if_ne (q := 10) (tgt := 13) dX7_towns_7 (by decide) rfl (fun c7 => absurd ((Classical.byContradiction fun z => hw (by obtain ⟨j, _, j2, j3⟩ := W.mp z; exact ⟨j, j2, j3⟩))) c7) (fun _ => ?_)
    refine SW.bipush (q := 12) (v := (-2)) dX7_towns_10 (by decide) rfl ?_
    refine SW.iretR rfl rfl dX7_towns_12 ?_
    exact ⟨fc_rf, ce_rf, fun _ => ⟨rfl, hI0⟩, fun i h1 e => absurd ⟨i, h1, e⟩ hw⟩
theorem C_X7_change (hI : cI_ n a b c sea g br wn k σ) :
    sw_Mi X 6 mX7_change [.ref (sw_ad X 0), .int x, .int y] σ (fun v u => fc_ σ u ∧ (u 1 0 = σ 1 0 ∧ u 33 1 = σ 33 1) ∧
      ((¬ (0 ≤ x ∧ x < nI (n * n)) → v = -1 ∧ u = σ) ∧ ∀ p, p < n * n → x = nI p → (¬ (-400 ≤ y ∧ y ≤ 400 ∧ ¬ y = 0) → v = -2 ∧ u = σ) ∧ ((-400 ≤ y ∧ y ≤ 400 ∧ ¬ y = 0) → (c = 30 → v = -4 ∧ u = σ) ∧ (c < 30 → v = nI (c + 1) ∧ cI_ n a b (c + 1) sea g br wn 1 u ∧ (u 34 c = nI (a + p % n) ∧ u 35 c = nI (b + p / n) ∧ u 36 c = y) ∧ ∀ j, j < c → u 34 j = σ 34 j ∧ u 35 j = σ 35 j ∧ u 36 j = σ 36 j)))) := by
  have n24 : n ≤ 24 := hI.1.1.2.1
  have h576 := gr_576 n24
  have epl : σ 1 2 = nI (n * n) := hI.1.1.2.2.2
  have ec := hI.1.2.2.1.1
  have c30 := hI.1.2.2.1.2.1
  refine sw_ME.ofF (by decide +kernel) rfl (Nat.le_of_ble_eq_true rfl) rfl ?_
  by_cases hp : 0 ≤ x ∧ x < nI (n * n)
  · obtain ⟨p, hpn, rfl⟩ := pl_in n24 hp
    have inj : ∀ p', p' < n * n → nI p = nI p' → p' = p := fun p' h e => by rw [nI_eq (by omega) (by omega)] at e; exact e.symm
    by_cases y0 : y = 0
    · refine SW.aload_n (q := 1) (i := 0) dX7_change_0 rfl rfl rfl ?_
      refine SW.getR (q := 4) (i := 0) (j := 1) fX7_12 rfl rfl dX7_change_1 rfl ?_
      refine SW.iload_n (q := 5) (i := 1) dX7_change_4 rfl rfl rfl ?_
      refine SW.cF (q := 8) (C_X5_hasPlace) vX7_103 (by decide) rfl rfl rfl rfl (Nat.le_of_ble_eq_true rfl) dX7_change_5 rfl ?_
      refine SW.if_ne (q := 11) (tgt := 13) dX7_change_8 (by decide) rfl (fun _ => ?_) (fun c8 => absurd c8 ((by rw [epl, decide_eq_true hp]; decide)))
      refine SW.iload_n (q := 14) (i := 2) dX7_change_13 rfl rfl rfl ?_
      refine SW.if_eq (q := 17) (tgt := 30) dX7_change_14 (by decide) rfl (fun _ => ?_) (fun c14 => absurd (y0) c14)
      refine SW.bipush (q := 32) (v := (-2)) dX7_change_30 (by decide) rfl ?_
      refine SW.iretR rfl rfl dX7_change_32 ?_
      exact ⟨fc_rf, ⟨rfl, rfl⟩, fun z => absurd hp z, fun p' h e => ⟨fun _ => ⟨rfl, rfl⟩, fun z => absurd y0 z.2.2⟩⟩
    · by_cases hy : -400 ≤ y ∧ y ≤ 400
      · by_cases hc : c = 30
        · refine SW.aload_n (q := 1) (i := 0) dX7_change_0 rfl rfl rfl ?_
          refine SW.getR (q := 4) (i := 0) (j := 1) fX7_12 rfl rfl dX7_change_1 rfl ?_
          refine SW.iload_n (q := 5) (i := 1) dX7_change_4 rfl rfl rfl ?_
          refine SW.cF (q := 8) (C_X5_hasPlace) vX7_103 (by decide) rfl rfl rfl rfl (Nat.le_of_ble_eq_true rfl) dX7_change_5 rfl ?_
          refine SW.if_ne (q := 11) (tgt := 13) dX7_change_8 (by decide) rfl (fun _ => ?_) (fun c8 => absurd c8 ((by rw [epl, decide_eq_true hp]; decide)))
          refine SW.iload_n (q := 14) (i := 2) dX7_change_13 rfl rfl rfl ?_
          refine SW.if_eq (q := 17) (tgt := 30) dX7_change_14 (by decide) rfl (fun c14 => absurd c14 (y0)) (fun _ => ?_)
          refine SW.iload_n (q := 18) (i := 2) dX7_change_17 rfl rfl rfl ?_
          refine SW.sipush (q := 21) (v := (-400)) dX7_change_18 (by decide) rfl ?_
          refine SW.sipush (q := 24) (v := 400) dX7_change_21 (by decide) rfl ?_
          refine SW.sF (q := 27) (C_X7_within) vX7_82 (by decide) rfl rfl (Nat.le_of_ble_eq_true rfl) dX7_change_24 rfl ?_
          refine SW.if_ne (q := 30) (tgt := 33) dX7_change_27 (by decide) rfl (fun _ => ?_) (fun c27 => absurd c27 ((sw_wi_1 hy.1 hy.2)))
          refine SW.aload_n (q := 34) (i := 0) dX7_change_33 rfl rfl rfl ?_
          refine SW.getR (q := 37) (i := 0) (j := 1) fX7_12 rfl rfl dX7_change_34 rfl ?_
          refine SW.getI (q := 40) (i := 1) fX7_107 rfl rfl dX7_change_37 rfl ?_
          refine SW.bipush (q := 42) (v := 30) dX7_change_40 (by decide) rfl ?_
          refine SW.icmp_lt (q := 45) (tgt := 48) dX7_change_42 (by decide) rfl (fun c42 => absurd c42 ((by rw [ec, hc]; decide))) (fun _ => ?_)
          refine SW.bipush (q := 47) (v := (-4)) dX7_change_45 (by decide) rfl ?_
          refine SW.iretR rfl rfl dX7_change_47 ?_
          exact ⟨fc_rf, ⟨rfl, rfl⟩, fun z => absurd hp z, fun p' h e => ⟨fun z => absurd ⟨hy.1, hy.2, y0⟩ z, fun _ => ⟨fun _ => ⟨rfl, rfl⟩, fun z => by omega⟩⟩⟩
        · obtain ⟨M, hM⟩ : ∃ M, (M = k ∧ 1 ≤ k) ∨ (M = 1 ∧ k ≤ 1) := by
            rcases Nat.lt_or_ge k 1 with z | z
            · exact ⟨1, Or.inr ⟨rfl, by omega⟩⟩
            · exact ⟨k, Or.inl ⟨rfl, z⟩⟩
          refine SW.aload_n (q := 1) (i := 0) dX7_change_0 rfl rfl rfl ?_
          refine SW.getR (q := 4) (i := 0) (j := 1) fX7_12 rfl rfl dX7_change_1 rfl ?_
          refine SW.iload_n (q := 5) (i := 1) dX7_change_4 rfl rfl rfl ?_
          refine SW.cF (q := 8) (C_X5_hasPlace) vX7_103 (by decide) rfl rfl rfl rfl (Nat.le_of_ble_eq_true rfl) dX7_change_5 rfl ?_
          refine SW.if_ne (q := 11) (tgt := 13) dX7_change_8 (by decide) rfl (fun _ => ?_) (fun c8 => absurd c8 ((by rw [epl, decide_eq_true hp]; decide)))
          refine SW.iload_n (q := 14) (i := 2) dX7_change_13 rfl rfl rfl ?_
          refine SW.if_eq (q := 17) (tgt := 30) dX7_change_14 (by decide) rfl (fun c14 => absurd c14 (y0)) (fun _ => ?_)
          refine SW.iload_n (q := 18) (i := 2) dX7_change_17 rfl rfl rfl ?_
          refine SW.sipush (q := 21) (v := (-400)) dX7_change_18 (by decide) rfl ?_
          refine SW.sipush (q := 24) (v := 400) dX7_change_21 (by decide) rfl ?_
          refine SW.sF (q := 27) (C_X7_within) vX7_82 (by decide) rfl rfl (Nat.le_of_ble_eq_true rfl) dX7_change_24 rfl ?_
          refine SW.if_ne (q := 30) (tgt := 33) dX7_change_27 (by decide) rfl (fun _ => ?_) (fun c27 => absurd c27 ((sw_wi_1 hy.1 hy.2)))
          refine SW.aload_n (q := 34) (i := 0) dX7_change_33 rfl rfl rfl ?_
          refine SW.getR (q := 37) (i := 0) (j := 1) fX7_12 rfl rfl dX7_change_34 rfl ?_
          refine SW.getI (q := 40) (i := 1) fX7_107 rfl rfl dX7_change_37 rfl ?_
          refine SW.bipush (q := 42) (v := 30) dX7_change_40 (by decide) rfl ?_
          refine SW.icmp_lt (q := 45) (tgt := 48) dX7_change_42 (by decide) rfl (fun _ => ?_) (fun c42 => absurd ((by rw [ec]; exact Int32.not_le.mp (nI_ge (b := 30) (by omega) (by omega)))) c42)
          refine SW.aload_n (q := 49) (i := 0) dX7_change_48 rfl rfl rfl ?_
          refine SW.iconst (q := 50) (v := 1) dX7_change_49 (by decide) rfl ?_
          refine SW.cV (q := 53) (C_X7_makeUpTo (s := 1) hI rfl (by decide) hM) vX7_110 (by decide) rfl rfl rfl rfl (Nat.le_of_ble_eq_true rfl) dX7_change_50 rfl (fun u50 r50 => ?_)
          obtain ⟨g1, g2⟩ := r50
          obtain ⟨hK, hk, k4, i1, -⟩ := g2
          have y1 := i1 (by omega)
          have hT : gr_T u50 n := ⟨hK.1.1, n24, hK.1.2.2.1, hK.1.2.2.2, fun p hp => ⟨(y1 p hp).1, (y1 p hp).2.1⟩⟩
          refine SW.aload_n (q := 54) (i := 0) dX7_change_53 rfl rfl rfl ?_
          refine SW.getR (q := 57) (i := 0) (j := 1) fX7_12 rfl rfl dX7_change_54 rfl ?_
          refine SW.iload_n (q := 58) (i := 1) dX7_change_57 rfl rfl rfl ?_
          refine SW.iload_n (q := 59) (i := 2) dX7_change_58 rfl rfl rfl ?_
          refine SW.cG (q := 62) (C_X5_addChange (n := n) (p := p) (c := c) hT rfl hpn hK.2.2.1.1 (by omega)) vX7_113 (by decide) rfl rfl rfl rfl (Nat.le_of_ble_eq_true rfl) dX7_change_59 rfl ?_
          refine SW.aload_n (q := 63) (i := 0) dX7_change_62 rfl rfl rfl ?_
          refine SW.iconst (q := 64) (v := 1) dX7_change_63 (by decide) rfl ?_
          refine SW.cG (q := 67) (C_X7_keepUpTo) vX7_78 (by decide) rfl rfl rfl rfl (Nat.le_of_ble_eq_true rfl) dX7_change_64 rfl ?_
          generalize hu : sw_up (sw_up (sw_up (sw_up (sw_up u50 34 c (u50 1 3 + nI (p % n))) 35 c (u50 1 4 + nI (p / n))) 36 c y) 1 5 (nI (c + 1))) 0 8 (sw_min (sw_up (sw_up (sw_up (sw_up u50 34 c (u50 1 3 + nI (p % n))) 35 c (u50 1 4 + nI (p / n))) 36 c y) 1 5 (nI (c + 1)) 0 8) 1) = w
          refine SW.aload_n (q := 68) (i := 0) dX7_change_67 rfl rfl rfl ?_
          refine SW.getR (q := 71) (i := 0) (j := 1) fX7_12 rfl rfl dX7_change_68 rfl ?_
          refine SW.getI (q := 74) (i := 1) fX7_107 rfl rfl dX7_change_71 rfl ?_
          refine SW.iretR rfl rfl dX7_change_74 ?_
          have f1 : fr_ [0, 1, 34, 35, 36] u50 w := by rw [← hu]; exact fr_up (fr_up (fr_up (fr_up (fr_up fr_rf (by decide)) (by decide)) (by decide)) (by decide)) (by decide)
          obtain ⟨⟨n4, n24', q1, q2⟩, ⟨q3, q4, q5, q6⟩, ⟨q7, q8⟩, q9, q10⟩ := hK
          have w10 : ∀ j, j ≠ 5 → w 1 j = u50 1 j := fun j hj => by rw [← hu, sw_un (by decide), sw_o1 hj, sw_un (by decide), sw_un (by decide), sw_un (by decide)]
          have w15 : w 1 5 = nI (c + 1) := by rw [← hu, sw_un (by decide), sw_i1]
          have w08 : w 0 8 = nI 1 := by rw [← hu, sw_i1, sw_un (by decide), sw_un (by decide), sw_un (by decide), sw_un (by decide), hk, show (1 : Int32) = nI 1 from rfl, sw_min_N (by omega) (by omega)]; rw [Nat.min_eq_right (by omega)]
          have w07 : w 0 7 = u50 0 7 := by rw [← hu, sw_o1 (by decide), sw_un (by decide), sw_un (by decide), sw_un (by decide), sw_un (by decide)]
          have w34 : w 34 = upd (u50 34) c (nI (a + p % n)) := by rw [← hu, sw_un (by decide), sw_un (by decide), sw_un (by decide), sw_un (by decide), sw_up_i, q3, nI_add]
          have w35 : w 35 = upd (u50 35) c (nI (b + p / n)) := by rw [← hu, sw_un (by decide), sw_un (by decide), sw_un (by decide), sw_up_i, sw_un (by decide), q5, nI_add]
          have w36 : w 36 = upd (u50 36) c y := by rw [← hu, sw_un (by decide), sw_un (by decide), sw_up_i, sw_un (by decide), sw_un (by decide)]
          have w33 : w 33 = u50 33 := f1 33 (by decide)
          obtain ⟨l1, l2, l3⟩ := gr_lt hpn
          have hp24 : p / n < 24 := by omega
          have ffr : fr_ [0, 1, 2, 3, 4, 5, 6, 34, 35, 36, 37, 38, 39, 40, 41, 42, 43, 44, 45, 46, 47, 48, 49, 50, 51, 52, 53, 54, 55, 56, 57, 58] σ w := fr_tr (fr_sub g1 (by decide)) f1 (by decide)
          refine ⟨fc_fr ffr (by decide), ⟨by rw [w10 0 (by decide), g1 1 (by decide)], by rw [w33, g1 33 (by decide)]⟩, fun z => absurd hp z, fun p' h e => ⟨fun z => absurd ⟨hy.1, hy.2, y0⟩ z, fun _ => ⟨fun z => absurd z hc, fun _ => ?_⟩⟩⟩
          obtain rfl := inj p' h e
          refine ⟨w15, ⟨⟨⟨n4, n24', ?_, ?_⟩, ⟨?_, q4, ?_, q6⟩, ⟨w15, by omega, fun j hj => ?_⟩, by rw [w33]; exact q9, by rw [w07]; exact q10⟩, w08, by omega, fun _ => ?_, fun z => by omega, fun z => by omega, fun z => by omega⟩, ⟨by rw [w34, upd_i], by rw [w35, upd_i], by rw [w36, upd_i]⟩, fun j hj => ?_⟩
          · rw [w10 1 (by decide)]; exact q1
          · rw [w10 2 (by decide)]; exact q2
          · rw [w10 3 (by decide)]; exact q3
          · rw [w10 4 (by decide)]; exact q5
          · by_cases z : j = c
            · subst z; rw [w34, w35, upd_i, upd_i]; exact ⟨_, _, by omega, by omega, rfl, rfl⟩
            · rw [w34, w35, upd_o z, upd_o z]; exact q8.2 j (by omega)
          · unfold cs_1
            rw [w10 0 (by decide), f1 37 (by decide), f1 38 (by decide), f1 39 (by decide)]; exact y1
          · rw [w34, w35, w36, upd_o (by omega), upd_o (by omega), upd_o (by omega), g1 34 (by decide), g1 35 (by decide), g1 36 (by decide)]
            exact ⟨rfl, rfl, rfl⟩
      · refine SW.aload_n (q := 1) (i := 0) dX7_change_0 rfl rfl rfl ?_
        refine SW.getR (q := 4) (i := 0) (j := 1) fX7_12 rfl rfl dX7_change_1 rfl ?_
        refine SW.iload_n (q := 5) (i := 1) dX7_change_4 rfl rfl rfl ?_
        refine SW.cF (q := 8) (C_X5_hasPlace) vX7_103 (by decide) rfl rfl rfl rfl (Nat.le_of_ble_eq_true rfl) dX7_change_5 rfl ?_
        refine SW.if_ne (q := 11) (tgt := 13) dX7_change_8 (by decide) rfl (fun _ => ?_) (fun c8 => absurd c8 ((by rw [epl, decide_eq_true hp]; decide)))
        refine SW.iload_n (q := 14) (i := 2) dX7_change_13 rfl rfl rfl ?_
        refine SW.if_eq (q := 17) (tgt := 30) dX7_change_14 (by decide) rfl (fun c14 => absurd c14 (y0)) (fun _ => ?_)
        refine SW.iload_n (q := 18) (i := 2) dX7_change_17 rfl rfl rfl ?_
        refine SW.sipush (q := 21) (v := (-400)) dX7_change_18 (by decide) rfl ?_
        refine SW.sipush (q := 24) (v := 400) dX7_change_21 (by decide) rfl ?_
        refine SW.sF (q := 27) (C_X7_within) vX7_82 (by decide) rfl rfl (Nat.le_of_ble_eq_true rfl) dX7_change_24 rfl ?_
        refine SW.if_ne (q := 30) (tgt := 33) dX7_change_27 (by decide) rfl (fun c27 => absurd ((by unfold sw_wi; exact if_neg hy)) c27) (fun _ => ?_)
        refine SW.bipush (q := 32) (v := (-2)) dX7_change_30 (by decide) rfl ?_
        refine SW.iretR rfl rfl dX7_change_32 ?_
        exact ⟨fc_rf, ⟨rfl, rfl⟩, fun z => absurd hp z, fun p' h e => ⟨fun _ => ⟨rfl, rfl⟩, fun z => absurd ⟨z.1, z.2.1⟩ hy⟩⟩
  · refine SW.aload_n (q := 1) (i := 0) dX7_change_0 rfl rfl rfl ?_
    refine SW.getR (q := 4) (i := 0) (j := 1) fX7_12 rfl rfl dX7_change_1 rfl ?_
    refine SW.iload_n (q := 5) (i := 1) dX7_change_4 rfl rfl rfl ?_
    refine SW.cF (q := 8) (C_X5_hasPlace) vX7_103 (by decide) rfl rfl rfl rfl (Nat.le_of_ble_eq_true rfl) dX7_change_5 rfl ?_
    refine SW.if_ne (q := 11) (tgt := 13) dX7_change_8 (by decide) rfl (fun c8 => absurd ((by rw [epl, decide_eq_false hp]; rfl)) c8) (fun _ => ?_)
    refine SW.iconst (q := 12) (v := (-1)) dX7_change_11 (by decide) rfl ?_
    refine SW.iretR rfl rfl dX7_change_12 ?_
    refine ⟨fc_rf, ⟨rfl, rfl⟩, fun _ => ⟨rfl, rfl⟩, fun q hq e => absurd ?_ hp⟩
    rw [e]; exact ⟨nI_pos' (by omega), Int32.not_le.mp (nI_ge hq (by omega))⟩
theorem C_X7_changed (hI : cI_ n a b c sea g br wn k σ) :
    sw_Mi X 6 mX7_changed [.ref (sw_ad X 0), .int x, .int what] σ (fun v u => u = σ ∧ ((¬ ∃ i, i < c ∧ x = nI i) → v = -1001) ∧ ∀ i, i < c → x = nI i → v = cd_ σ i what) := by
  have ec := hI.1.2.2.1.1
  have c30 := hI.1.2.2.1.2.1
  have W := tn_wiN (x := x) (m := c) (by omega)
  refine sw_ME.ofF (by decide +kernel) rfl (Nat.le_of_ble_eq_true rfl) rfl ?_
  by_cases hw : ∃ i, i < c ∧ x = nI i
  · obtain ⟨i, ic, rfl⟩ := hw
    have inj : ∀ i', i' < c → nI i = nI i' → i' = i := fun p' h e => by rw [nI_eq (by omega) (by omega)] at e; exact e.symm

    by_cases w0 : what = 0
    · refine SW.iload_n (q := 1) (i := 1) dX7_changed_0 rfl rfl rfl ?_
      refine SW.iconst (q := 2) (v := 0) dX7_changed_1 (by decide) rfl ?_
      refine SW.aload_n (q := 3) (i := 0) dX7_changed_2 rfl rfl rfl ?_
      refine SW.getR (q := 6) (i := 0) (j := 1) fX7_12 rfl rfl dX7_changed_3 rfl ?_
      refine SW.getI (q := 9) (i := 1) fX7_107 rfl rfl dX7_changed_6 rfl ?_
      refine SW.iconst (q := 10) (v := 1) dX7_changed_9 (by decide) rfl ?_
      refine SW.isub (q := 11) dX7_changed_10 rfl ?_
      refine SW.sF (q := 14) (C_X7_within) vX7_82 (by decide) rfl rfl (Nat.le_of_ble_eq_true rfl) dX7_changed_11 rfl ?_
      refine SW.if_ne (q := 17) (tgt := 21) dX7_changed_14 (by decide) rfl (fun _ => ?_) (fun c14 => absurd c14 ((by rw [ec]; exact W.mpr ⟨i, ic, rfl⟩)))
      refine SW.iload_n (q := 22) (i := 2) dX7_changed_21 rfl rfl rfl ?_
      refine SW.tableK (q := 48) (k := 0) (off := 26) dX7_changed_22 w0 (by decide) (by decide) rfl (by decide) ?_
      refine SW.aload_n (q := 49) (i := 0) dX7_changed_48 rfl rfl rfl ?_
      refine SW.getR (q := 52) (i := 0) (j := 1) fX7_12 rfl rfl dX7_changed_49 rfl ?_
      refine SW.getR (q := 55) (i := 1) (j := 8) fX7_116 rfl rfl dX7_changed_52 rfl ?_
      refine SW.iload_n (q := 56) (i := 1) dX7_changed_55 rfl rfl rfl ?_
      refine SW.cF (q := 59) (C_X3_atn (i := 8) (j := 34) (n := 30) rfl rfl (k := i) rfl (by omega)) vX7_119 (by decide) rfl rfl rfl rfl (Nat.le_of_ble_eq_true rfl) dX7_changed_56 rfl ?_
      refine SW.iretR rfl rfl dX7_changed_59 ?_
      exact ⟨rfl, fun z => absurd ⟨i, ic, rfl⟩ z, fun i' h e => by obtain rfl := inj i' h e; rw [cd_, if_pos w0]⟩
    by_cases w1 : what = 1
    · refine SW.iload_n (q := 1) (i := 1) dX7_changed_0 rfl rfl rfl ?_
      refine SW.iconst (q := 2) (v := 0) dX7_changed_1 (by decide) rfl ?_
      refine SW.aload_n (q := 3) (i := 0) dX7_changed_2 rfl rfl rfl ?_
      refine SW.getR (q := 6) (i := 0) (j := 1) fX7_12 rfl rfl dX7_changed_3 rfl ?_
      refine SW.getI (q := 9) (i := 1) fX7_107 rfl rfl dX7_changed_6 rfl ?_
      refine SW.iconst (q := 10) (v := 1) dX7_changed_9 (by decide) rfl ?_
      refine SW.isub (q := 11) dX7_changed_10 rfl ?_
      refine SW.sF (q := 14) (C_X7_within) vX7_82 (by decide) rfl rfl (Nat.le_of_ble_eq_true rfl) dX7_changed_11 rfl ?_
      refine SW.if_ne (q := 17) (tgt := 21) dX7_changed_14 (by decide) rfl (fun _ => ?_) (fun c14 => absurd c14 ((by rw [ec]; exact W.mpr ⟨i, ic, rfl⟩)))
      refine SW.iload_n (q := 22) (i := 2) dX7_changed_21 rfl rfl rfl ?_
      refine SW.tableK (q := 60) (k := 1) (off := 38) dX7_changed_22 w1 (by decide) (by decide) rfl (by decide) ?_
      refine SW.aload_n (q := 61) (i := 0) dX7_changed_60 rfl rfl rfl ?_
      refine SW.getR (q := 64) (i := 0) (j := 1) fX7_12 rfl rfl dX7_changed_61 rfl ?_
      refine SW.getR (q := 67) (i := 1) (j := 9) fX7_123 rfl rfl dX7_changed_64 rfl ?_
      refine SW.iload_n (q := 68) (i := 1) dX7_changed_67 rfl rfl rfl ?_
      refine SW.cF (q := 71) (C_X3_atn (i := 9) (j := 35) (n := 30) rfl rfl (k := i) rfl (by omega)) vX7_119 (by decide) rfl rfl rfl rfl (Nat.le_of_ble_eq_true rfl) dX7_changed_68 rfl ?_
      refine SW.iretR rfl rfl dX7_changed_71 ?_
      exact ⟨rfl, fun z => absurd ⟨i, ic, rfl⟩ z, fun i' h e => by obtain rfl := inj i' h e; rw [cd_, if_neg w0, if_pos w1]⟩
    by_cases w2 : what = 2
    · refine SW.iload_n (q := 1) (i := 1) dX7_changed_0 rfl rfl rfl ?_
      refine SW.iconst (q := 2) (v := 0) dX7_changed_1 (by decide) rfl ?_
      refine SW.aload_n (q := 3) (i := 0) dX7_changed_2 rfl rfl rfl ?_
      refine SW.getR (q := 6) (i := 0) (j := 1) fX7_12 rfl rfl dX7_changed_3 rfl ?_
      refine SW.getI (q := 9) (i := 1) fX7_107 rfl rfl dX7_changed_6 rfl ?_
      refine SW.iconst (q := 10) (v := 1) dX7_changed_9 (by decide) rfl ?_
      refine SW.isub (q := 11) dX7_changed_10 rfl ?_
      refine SW.sF (q := 14) (C_X7_within) vX7_82 (by decide) rfl rfl (Nat.le_of_ble_eq_true rfl) dX7_changed_11 rfl ?_
      refine SW.if_ne (q := 17) (tgt := 21) dX7_changed_14 (by decide) rfl (fun _ => ?_) (fun c14 => absurd c14 ((by rw [ec]; exact W.mpr ⟨i, ic, rfl⟩)))
      refine SW.iload_n (q := 22) (i := 2) dX7_changed_21 rfl rfl rfl ?_
      refine SW.tableK (q := 72) (k := 2) (off := 50) dX7_changed_22 w2 (by decide) (by decide) rfl (by decide) ?_
      refine SW.aload_n (q := 73) (i := 0) dX7_changed_72 rfl rfl rfl ?_
      refine SW.getR (q := 76) (i := 0) (j := 1) fX7_12 rfl rfl dX7_changed_73 rfl ?_
      refine SW.getR (q := 79) (i := 1) (j := 10) fX7_126 rfl rfl dX7_changed_76 rfl ?_
      refine SW.iload_n (q := 80) (i := 1) dX7_changed_79 rfl rfl rfl ?_
      refine SW.cF (q := 83) (C_X3_atn (i := 10) (j := 36) (n := 30) rfl rfl (k := i) rfl (by omega)) vX7_119 (by decide) rfl rfl rfl rfl (Nat.le_of_ble_eq_true rfl) dX7_changed_80 rfl ?_
      refine SW.iretR rfl rfl dX7_changed_83 ?_
      exact ⟨rfl, fun z => absurd ⟨i, ic, rfl⟩ z, fun i' h e => by obtain rfl := inj i' h e; rw [cd_, if_neg w0, if_neg w1, if_pos w2]⟩
    refine SW.iload_n (q := 1) (i := 1) dX7_changed_0 rfl rfl rfl ?_
    refine SW.iconst (q := 2) (v := 0) dX7_changed_1 (by decide) rfl ?_
    refine SW.aload_n (q := 3) (i := 0) dX7_changed_2 rfl rfl rfl ?_
    refine SW.getR (q := 6) (i := 0) (j := 1) fX7_12 rfl rfl dX7_changed_3 rfl ?_
    refine SW.getI (q := 9) (i := 1) fX7_107 rfl rfl dX7_changed_6 rfl ?_
    refine SW.iconst (q := 10) (v := 1) dX7_changed_9 (by decide) rfl ?_
    refine SW.isub (q := 11) dX7_changed_10 rfl ?_
    refine SW.sF (q := 14) (C_X7_within) vX7_82 (by decide) rfl rfl (Nat.le_of_ble_eq_true rfl) dX7_changed_11 rfl ?_
    refine SW.if_ne (q := 17) (tgt := 21) dX7_changed_14 (by decide) rfl (fun _ => ?_) (fun c14 => absurd c14 ((by rw [ec]; exact W.mpr ⟨i, ic, rfl⟩)))
    refine SW.iload_n (q := 22) (i := 2) dX7_changed_21 rfl rfl rfl ?_
    refine SW.tableOut (q := 84) dX7_changed_22 ((sw_out 0 2 (by decide) (by decide) (fun k h1 h2 => by rcases (show k = 0 ∨ k = 1 ∨ k = 2 by omega) with rfl | rfl | rfl <;> assumption))) (by decide) ?_
    refine SW.sipush (q := 87) (v := (-1002)) dX7_changed_84 (by decide) rfl ?_
    refine SW.iretR rfl rfl dX7_changed_87 ?_
    exact ⟨rfl, fun z => absurd ⟨i, ic, rfl⟩ z, fun i' h e => by obtain rfl := inj i' h e; rw [cd_, if_neg w0, if_neg w1, if_neg w2]⟩
  · refine SW.iload_n (q := 1) (i := 1) dX7_changed_0 rfl rfl rfl ?_
    refine SW.iconst (q := 2) (v := 0) dX7_changed_1 (by decide) rfl ?_
    refine SW.aload_n (q := 3) (i := 0) dX7_changed_2 rfl rfl rfl ?_
    refine SW.getR (q := 6) (i := 0) (j := 1) fX7_12 rfl rfl dX7_changed_3 rfl ?_
    refine SW.getI (q := 9) (i := 1) fX7_107 rfl rfl dX7_changed_6 rfl ?_
    refine SW.iconst (q := 10) (v := 1) dX7_changed_9 (by decide) rfl ?_
    refine SW.isub (q := 11) dX7_changed_10 rfl ?_
    refine SW.sF (q := 14) (C_X7_within) vX7_82 (by decide) rfl rfl (Nat.le_of_ble_eq_true rfl) dX7_changed_11 rfl ?_
    refine SW.if_ne (q := 17) (tgt := 21) dX7_changed_14 (by decide) rfl (fun c14 => absurd ((by rw [ec]; exact Classical.byContradiction fun z => hw (W.mp z))) c14) (fun _ => ?_)
    refine SW.sipush (q := 20) (v := (-1001)) dX7_changed_17 (by decide) rfl ?_
    refine SW.iretR rfl rfl dX7_changed_20 ?_
    exact ⟨rfl, fun _ => rfl, fun i h e => absurd ⟨i, h, e⟩ hw⟩
theorem C_X7_told (hI : cI_ n a b c sea g br wn k σ) :
    sw_Mi X 6 mX7_told [.ref (sw_ad X 0), .int what] σ (fun v u => fc_ σ u ∧ ce_ σ u ∧ ∃ M, cI_ n a b c sea g br wn M u ∧ v = td_ u what ∧ (what = 7 → 3 ≤ M)) := by
  obtain ⟨M, hM⟩ : ∃ M, (M = k ∧ 3 ≤ k) ∨ (M = 3 ∧ k ≤ 3) := by
    rcases Nat.lt_or_ge k 3 with z | z
    · exact ⟨3, Or.inr ⟨rfl, by omega⟩⟩
    · exact ⟨k, Or.inl ⟨rfl, z⟩⟩
  refine sw_ME.ofF (by decide +kernel) rfl (Nat.le_of_ble_eq_true rfl) rfl ?_

  by_cases w0 : what = 0
  · refine SW.iload_n (q := 1) (i := 1) dX7_told_0 rfl rfl rfl ?_
    refine SW.tableK (q := 60) (k := 0) (off := 59) dX7_told_1 w0 (by decide) (by decide) rfl (by decide) ?_
    refine SW.aload_n (q := 61) (i := 0) dX7_told_60 rfl rfl rfl ?_
    refine SW.getR (q := 64) (i := 0) (j := 1) fX7_12 rfl rfl dX7_told_61 rfl ?_
    refine SW.getI (q := 67) (i := 1) fX7_90 rfl rfl dX7_told_64 rfl ?_
    refine SW.iretR rfl rfl dX7_told_67 ?_
    exact ⟨fc_rf, ce_rf, k, hI, by rw [td_, if_pos w0], fun z => absurd (w0.symm.trans z) (by decide)⟩
  by_cases w1 : what = 1
  · refine SW.iload_n (q := 1) (i := 1) dX7_told_0 rfl rfl rfl ?_
    refine SW.tableK (q := 68) (k := 1) (off := 67) dX7_told_1 w1 (by decide) (by decide) rfl (by decide) ?_
    refine SW.aload_n (q := 69) (i := 0) dX7_told_68 rfl rfl rfl ?_
    refine SW.getR (q := 72) (i := 0) (j := 1) fX7_12 rfl rfl dX7_told_69 rfl ?_
    refine SW.getI (q := 75) (i := 1) fX7_97 rfl rfl dX7_told_72 rfl ?_
    refine SW.iretR rfl rfl dX7_told_75 ?_
    exact ⟨fc_rf, ce_rf, k, hI, by rw [td_, if_neg w0, if_pos w1], fun z => absurd (w1.symm.trans z) (by decide)⟩
  by_cases w2 : what = 2
  · refine SW.iload_n (q := 1) (i := 1) dX7_told_0 rfl rfl rfl ?_
    refine SW.tableK (q := 76) (k := 2) (off := 75) dX7_told_1 w2 (by decide) (by decide) rfl (by decide) ?_
    refine SW.aload_n (q := 77) (i := 0) dX7_told_76 rfl rfl rfl ?_
    refine SW.getR (q := 80) (i := 0) (j := 1) fX7_12 rfl rfl dX7_told_77 rfl ?_
    refine SW.getI (q := 83) (i := 1) fX7_100 rfl rfl dX7_told_80 rfl ?_
    refine SW.iretR rfl rfl dX7_told_83 ?_
    exact ⟨fc_rf, ce_rf, k, hI, by rw [td_, if_neg w0, if_neg w1, if_pos w2], fun z => absurd (w2.symm.trans z) (by decide)⟩
  by_cases w3 : what = 3
  · refine SW.iload_n (q := 1) (i := 1) dX7_told_0 rfl rfl rfl ?_
    refine SW.tableK (q := 84) (k := 3) (off := 83) dX7_told_1 w3 (by decide) (by decide) rfl (by decide) ?_
    refine SW.aload_n (q := 85) (i := 0) dX7_told_84 rfl rfl rfl ?_
    refine SW.getR (q := 88) (i := 0) (j := 7) fX7_56 rfl rfl dX7_told_85 rfl ?_
    refine SW.iconst (q := 89) (v := 0) dX7_told_88 (by decide) rfl ?_
    refine SW.cF (q := 92) (C_X3_atn (i := 7) (j := 33) (n := 4) rfl rfl (k := 0) rfl (by decide)) vX7_119 (by decide) rfl rfl rfl rfl (Nat.le_of_ble_eq_true rfl) dX7_told_89 rfl ?_
    refine SW.iretR rfl rfl dX7_told_92 ?_
    exact ⟨fc_rf, ce_rf, k, hI, by rw [td_, if_neg w0, if_neg w1, if_neg w2, if_pos w3], fun z => absurd (w3.symm.trans z) (by decide)⟩
  by_cases w4 : what = 4
  · refine SW.iload_n (q := 1) (i := 1) dX7_told_0 rfl rfl rfl ?_
    refine SW.tableK (q := 93) (k := 4) (off := 92) dX7_told_1 w4 (by decide) (by decide) rfl (by decide) ?_
    refine SW.aload_n (q := 94) (i := 0) dX7_told_93 rfl rfl rfl ?_
    refine SW.getR (q := 97) (i := 0) (j := 7) fX7_56 rfl rfl dX7_told_94 rfl ?_
    refine SW.iconst (q := 98) (v := 1) dX7_told_97 (by decide) rfl ?_
    refine SW.cF (q := 101) (C_X3_atn (i := 7) (j := 33) (n := 4) rfl rfl (k := 1) rfl (by decide)) vX7_119 (by decide) rfl rfl rfl rfl (Nat.le_of_ble_eq_true rfl) dX7_told_98 rfl ?_
    refine SW.iretR rfl rfl dX7_told_101 ?_
    exact ⟨fc_rf, ce_rf, k, hI, by rw [td_, if_neg w0, if_neg w1, if_neg w2, if_neg w3, if_pos w4], fun z => absurd (w4.symm.trans z) (by decide)⟩
  by_cases w5 : what = 5
  · refine SW.iload_n (q := 1) (i := 1) dX7_told_0 rfl rfl rfl ?_
    refine SW.tableK (q := 102) (k := 5) (off := 101) dX7_told_1 w5 (by decide) (by decide) rfl (by decide) ?_
    refine SW.aload_n (q := 103) (i := 0) dX7_told_102 rfl rfl rfl ?_
    refine SW.getR (q := 106) (i := 0) (j := 7) fX7_56 rfl rfl dX7_told_103 rfl ?_
    refine SW.iconst (q := 107) (v := 2) dX7_told_106 (by decide) rfl ?_
    refine SW.cF (q := 110) (C_X3_atn (i := 7) (j := 33) (n := 4) rfl rfl (k := 2) rfl (by decide)) vX7_119 (by decide) rfl rfl rfl rfl (Nat.le_of_ble_eq_true rfl) dX7_told_107 rfl ?_
    refine SW.iretR rfl rfl dX7_told_110 ?_
    exact ⟨fc_rf, ce_rf, k, hI, by rw [td_, if_neg w0, if_neg w1, if_neg w2, if_neg w3, if_neg w4, if_pos w5], fun z => absurd (w5.symm.trans z) (by decide)⟩
  by_cases w6 : what = 6
  · refine SW.iload_n (q := 1) (i := 1) dX7_told_0 rfl rfl rfl ?_
    refine SW.tableK (q := 111) (k := 6) (off := 110) dX7_told_1 w6 (by decide) (by decide) rfl (by decide) ?_
    refine SW.aload_n (q := 112) (i := 0) dX7_told_111 rfl rfl rfl ?_
    refine SW.getR (q := 115) (i := 0) (j := 7) fX7_56 rfl rfl dX7_told_112 rfl ?_
    refine SW.iconst (q := 116) (v := 3) dX7_told_115 (by decide) rfl ?_
    refine SW.cF (q := 119) (C_X3_atn (i := 7) (j := 33) (n := 4) rfl rfl (k := 3) rfl (by decide)) vX7_119 (by decide) rfl rfl rfl rfl (Nat.le_of_ble_eq_true rfl) dX7_told_116 rfl ?_
    refine SW.iretR rfl rfl dX7_told_119 ?_
    exact ⟨fc_rf, ce_rf, k, hI, by rw [td_, if_neg w0, if_neg w1, if_neg w2, if_neg w3, if_neg w4, if_neg w5, if_pos w6], fun z => absurd (w6.symm.trans z) (by decide)⟩
  by_cases w7 : what = 7
  · refine SW.iload_n (q := 1) (i := 1) dX7_told_0 rfl rfl rfl ?_
    refine SW.tableK (q := 120) (k := 7) (off := 119) dX7_told_1 w7 (by decide) (by decide) rfl (by decide) ?_
    refine SW.aload_n (q := 121) (i := 0) dX7_told_120 rfl rfl rfl ?_
    refine SW.iconst (q := 122) (v := 3) dX7_told_121 (by decide) rfl ?_
    refine SW.cV (q := 125) (C_X7_makeUpTo (s := 3) hI rfl (by decide) hM) vX7_110 (by decide) rfl rfl rfl rfl (Nat.le_of_ble_eq_true rfl) dX7_told_122 rfl (fun u122 r122 => ?_)
    obtain ⟨g1, g2⟩ := r122
    refine SW.aload_n (q := 126) (i := 0) dX7_told_125 rfl rfl rfl ?_
    refine SW.getR (q := 129) (i := 0) (j := 4) fX7_33 rfl rfl dX7_told_126 rfl ?_
    refine SW.getI (q := 132) (i := 4) fX7_173 rfl rfl dX7_told_129 rfl ?_
    refine SW.iretR rfl rfl dX7_told_132 ?_
    exact ⟨fc_fr g1 (by decide), ce_fr g1 (by decide), M, g2, by rw [td_, if_neg w0, if_neg w1, if_neg w2, if_neg w3, if_neg w4, if_neg w5, if_neg w6, if_pos w7], fun _ => by omega⟩
  by_cases w8 : what = 8
  · refine SW.iload_n (q := 1) (i := 1) dX7_told_0 rfl rfl rfl ?_
    refine SW.tableK (q := 133) (k := 8) (off := 132) dX7_told_1 w8 (by decide) (by decide) rfl (by decide) ?_
    refine SW.aload_n (q := 134) (i := 0) dX7_told_133 rfl rfl rfl ?_
    refine SW.getI (q := 137) (i := 0) fX7_60 rfl rfl dX7_told_134 rfl ?_
    refine SW.iretR rfl rfl dX7_told_137 ?_
    exact ⟨fc_rf, ce_rf, k, hI, by rw [td_, if_neg w0, if_neg w1, if_neg w2, if_neg w3, if_neg w4, if_neg w5, if_neg w6, if_neg w7, if_pos w8], fun z => absurd z w7⟩
  by_cases w9 : what = 9
  · refine SW.iload_n (q := 1) (i := 1) dX7_told_0 rfl rfl rfl ?_
    refine SW.tableK (q := 138) (k := 9) (off := 137) dX7_told_1 w9 (by decide) (by decide) rfl (by decide) ?_
    refine SW.aload_n (q := 139) (i := 0) dX7_told_138 rfl rfl rfl ?_
    refine SW.getR (q := 142) (i := 0) (j := 1) fX7_12 rfl rfl dX7_told_139 rfl ?_
    refine SW.getI (q := 145) (i := 1) fX7_107 rfl rfl dX7_told_142 rfl ?_
    refine SW.iretR rfl rfl dX7_told_145 ?_
    exact ⟨fc_rf, ce_rf, k, hI, by rw [td_, if_neg w0, if_neg w1, if_neg w2, if_neg w3, if_neg w4, if_neg w5, if_neg w6, if_neg w7, if_neg w8, if_pos w9], fun z => absurd z w7⟩
  by_cases w10 : what = 10
  · refine SW.iload_n (q := 1) (i := 1) dX7_told_0 rfl rfl rfl ?_
    refine SW.tableK (q := 146) (k := 10) (off := 145) dX7_told_1 w10 (by decide) (by decide) rfl (by decide) ?_
    refine SW.aload_n (q := 147) (i := 0) dX7_told_146 rfl rfl rfl ?_
    refine SW.getR (q := 150) (i := 0) (j := 1) fX7_12 rfl rfl dX7_told_147 rfl ?_
    refine SW.getI (q := 153) (i := 1) fX7_75 rfl rfl dX7_told_150 rfl ?_
    refine SW.iretR rfl rfl dX7_told_153 ?_
    exact ⟨fc_rf, ce_rf, k, hI, by rw [td_, if_neg w0, if_neg w1, if_neg w2, if_neg w3, if_neg w4, if_neg w5, if_neg w6, if_neg w7, if_neg w8, if_neg w9, if_pos w10], fun z => absurd z w7⟩
  refine SW.iload_n (q := 1) (i := 1) dX7_told_0 rfl rfl rfl ?_
  refine SW.tableOut (q := 154) dX7_told_1 ((sw_out 0 10 (by decide) (by decide) (fun k h1 h2 => by rcases (show k = 0 ∨ k = 1 ∨ k = 2 ∨ k = 3 ∨ k = 4 ∨ k = 5 ∨ k = 6 ∨ k = 7 ∨ k = 8 ∨ k = 9 ∨ k = 10 by omega) with rfl | rfl | rfl | rfl | rfl | rfl | rfl | rfl | rfl | rfl | rfl <;> assumption))) (by decide) ?_
  refine SW.bipush (q := 156) (v := (-2)) dX7_told_154 (by decide) rfl ?_
  refine SW.iretR rfl rfl dX7_told_156 ?_
  exact ⟨fc_rf, ce_rf, k, hI, by rw [td_, if_neg w0, if_neg w1, if_neg w2, if_neg w3, if_neg w4, if_neg w5, if_neg w6, if_neg w7, if_neg w8, if_neg w9, if_neg w10], fun z => absurd z w7⟩
end CSET2
