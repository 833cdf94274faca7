/-! the reference's change -/
section MCHANGE
variable {X : sw_X} {σ τ u : sw_Sg} {x y v w st what : Int32} {n a b c sea g br wn k s M p m : Nat}
theorem C_X8_change (hI : mI_ n a b c sea g br wn σ) :
    sw_Mi X 2 mX8_change [.ref (sw_ad X 59), .int x, .int y] σ (fun v u => fm_ σ u ∧ (u 59 0 = σ 59 0 ∧ u 60 1 = σ 60 1) ∧
      (((¬ ∃ q, q < n * n ∧ x = nI q) → v = -1 ∧ u = σ) ∧ ∀ p, p < n * n → x = nI p → (¬ (-400 ≤ y ∧ y ≤ 400 ∧ ¬ y = 0) → v = -2 ∧ u = σ) ∧ ((-400 ≤ y ∧ y ≤ 400 ∧ ¬ y = 0) → (c = 30 → v = -4 ∧ u = σ) ∧ (c < 30 → v = nI (c + 1) ∧ mI_ n a b (c + 1) sea g br wn u ∧ (u 61 c = nI (a + p % n) ∧ u 62 c = nI (b + p / n) ∧ u 63 c = y) ∧ ∀ j, j < c → u 61 j = σ 61 j ∧ u 62 j = σ 62 j ∧ u 63 j = σ 63 j)))) := by
  have hM : gr_M σ n := hI.1.1
  obtain ⟨⟨q1, ⟨q2, qa, q3, qb⟩, ⟨q4, q5⟩, q6, q7⟩, -⟩ := hI
  have n24 := hM.2.1
  have h576 := gr_576 n24
  have c30 := q5.1
  have W := mpl_ (x := x) hM.1 n24
  refine sw_ME.ofF (by decide +kernel) rfl (Nat.le_of_ble_eq_true rfl) rfl ?_
  by_cases hp : ∃ q, q < n * n ∧ x = nI q
  · obtain ⟨p, hpn, rfl⟩ := hp
    have inj : ∀ p', p' < n * n → nI p = nI p' → p' = p := fun p' h e => by rw [nI_eq (by omega) (by omega)] at e; exact e.symm
    by_cases hy : -400 ≤ y ∧ y ≤ 400
    · by_cases y0 : y = 0
      · refine SW.aload_n (q := 1) (i := 0) dX8_change_0 rfl rfl rfl ?_
        refine SW.iload_n (q := 2) (i := 1) dX8_change_1 rfl rfl rfl ?_
        refine SW.cF (q := 5) (C_X8_isPlace hM) vX8_104 (by decide) rfl rfl rfl rfl (Nat.le_of_ble_eq_true rfl) dX8_change_2 rfl ?_
        refine SW.if_ne (q := 8) (tgt := 10) dX8_change_5 (by decide) rfl (fun _ => ?_) (fun c5 => absurd c5 ((W.mpr ⟨p, hpn, rfl⟩)))
        refine SW.iload_n (q := 11) (i := 2) dX8_change_10 rfl rfl rfl ?_
        refine SW.sipush (q := 14) (v := (-400)) dX8_change_11 (by decide) rfl ?_
        refine SW.sipush (q := 17) (v := 400) dX8_change_14 (by decide) rfl ?_
        refine SW.sF (q := 20) (C_X8_in) vX8_69 (by decide) rfl rfl (Nat.le_of_ble_eq_true rfl) dX8_change_17 rfl ?_
        refine SW.if_eq (q := 23) (tgt := 27) dX8_change_20 (by decide) rfl (fun c20 => absurd c20 ((sw_wi_1 hy.1 hy.2))) (fun _ => ?_)
        refine SW.iload_n (q := 24) (i := 2) dX8_change_23 rfl rfl rfl ?_
        refine SW.if_ne (q := 27) (tgt := 30) dX8_change_24 (by decide) rfl (fun c24 => absurd (y0) c24) (fun _ => ?_)
        refine SW.bipush (q := 29) (v := (-2)) dX8_change_27 (by decide) rfl ?_
        refine SW.iretR rfl rfl dX8_change_29 ?_
        exact ⟨fm_rf, ⟨rfl, rfl⟩, fun z => absurd ⟨p, hpn, rfl⟩ z, fun p' h e => ⟨fun _ => ⟨rfl, rfl⟩, fun z => absurd y0 z.2.2⟩⟩
      · by_cases hc : c = 30
        · refine SW.aload_n (q := 1) (i := 0) dX8_change_0 rfl rfl rfl ?_
          refine SW.iload_n (q := 2) (i := 1) dX8_change_1 rfl rfl rfl ?_
          refine SW.cF (q := 5) (C_X8_isPlace hM) vX8_104 (by decide) rfl rfl rfl rfl (Nat.le_of_ble_eq_true rfl) dX8_change_2 rfl ?_
          refine SW.if_ne (q := 8) (tgt := 10) dX8_change_5 (by decide) rfl (fun _ => ?_) (fun c5 => absurd c5 ((W.mpr ⟨p, hpn, rfl⟩)))
          refine SW.iload_n (q := 11) (i := 2) dX8_change_10 rfl rfl rfl ?_
          refine SW.sipush (q := 14) (v := (-400)) dX8_change_11 (by decide) rfl ?_
          refine SW.sipush (q := 17) (v := 400) dX8_change_14 (by decide) rfl ?_
          refine SW.sF (q := 20) (C_X8_in) vX8_69 (by decide) rfl rfl (Nat.le_of_ble_eq_true rfl) dX8_change_17 rfl ?_
          refine SW.if_eq (q := 23) (tgt := 27) dX8_change_20 (by decide) rfl (fun c20 => absurd c20 ((sw_wi_1 hy.1 hy.2))) (fun _ => ?_)
          refine SW.iload_n (q := 24) (i := 2) dX8_change_23 rfl rfl rfl ?_
          refine SW.if_ne (q := 27) (tgt := 30) dX8_change_24 (by decide) rfl (fun _ => ?_) (fun c24 => absurd c24 (y0))
          refine SW.aload_n (q := 31) (i := 0) dX8_change_30 rfl rfl rfl ?_
          refine SW.getI (q := 34) (i := 59) fX8_108 rfl rfl dX8_change_31 rfl ?_
          refine SW.bipush (q := 36) (v := 30) dX8_change_34 (by decide) rfl ?_
          refine SW.icmp_ne (q := 39) (tgt := 42) dX8_change_36 (by decide) rfl (fun c36 => absurd ((by rw [q4, hc]; rfl)) c36) (fun _ => ?_)
          refine SW.bipush (q := 41) (v := (-4)) dX8_change_39 (by decide) rfl ?_
          refine SW.iretR rfl rfl dX8_change_41 ?_
          exact ⟨fm_rf, ⟨rfl, rfl⟩, fun z => absurd ⟨p, hpn, rfl⟩ z, fun p' h e => ⟨fun z => absurd ⟨hy.1, hy.2, y0⟩ z, fun _ => ⟨fun _ => ⟨rfl, rfl⟩, fun z => by omega⟩⟩⟩
        · obtain ⟨l1, l2, l3⟩ := gr_lt hpn
          have ex : nI p - nI p / nI n * nI n = nI (p % n) := pk_rem (by omega) l3 (by omega)
          have ey : nI p / nI n = nI (p / n) := pk_div (by omega) l3 (by omega)
          have hne : ¬ σ 59 1 = 0 := by rw [hM.2.2]; exact nI_ne0 l3 (by omega)
          refine SW.aload_n (q := 1) (i := 0) dX8_change_0 rfl rfl rfl ?_
          refine SW.iload_n (q := 2) (i := 1) dX8_change_1 rfl rfl rfl ?_
          refine SW.cF (q := 5) (C_X8_isPlace hM) vX8_104 (by decide) rfl rfl rfl rfl (Nat.le_of_ble_eq_true rfl) dX8_change_2 rfl ?_
          refine SW.if_ne (q := 8) (tgt := 10) dX8_change_5 (by decide) rfl (fun _ => ?_) (fun c5 => absurd c5 ((W.mpr ⟨p, hpn, rfl⟩)))
          refine SW.iload_n (q := 11) (i := 2) dX8_change_10 rfl rfl rfl ?_
          refine SW.sipush (q := 14) (v := (-400)) dX8_change_11 (by decide) rfl ?_
          refine SW.sipush (q := 17) (v := 400) dX8_change_14 (by decide) rfl ?_
          refine SW.sF (q := 20) (C_X8_in) vX8_69 (by decide) rfl rfl (Nat.le_of_ble_eq_true rfl) dX8_change_17 rfl ?_
          refine SW.if_eq (q := 23) (tgt := 27) dX8_change_20 (by decide) rfl (fun c20 => absurd c20 ((sw_wi_1 hy.1 hy.2))) (fun _ => ?_)
          refine SW.iload_n (q := 24) (i := 2) dX8_change_23 rfl rfl rfl ?_
          refine SW.if_ne (q := 27) (tgt := 30) dX8_change_24 (by decide) rfl (fun _ => ?_) (fun c24 => absurd c24 (y0))
          refine SW.aload_n (q := 31) (i := 0) dX8_change_30 rfl rfl rfl ?_
          refine SW.getI (q := 34) (i := 59) fX8_108 rfl rfl dX8_change_31 rfl ?_
          refine SW.bipush (q := 36) (v := 30) dX8_change_34 (by decide) rfl ?_
          refine SW.icmp_ne (q := 39) (tgt := 42) dX8_change_36 (by decide) rfl (fun _ => ?_) (fun c36 => absurd c36 ((by rw [q4]; exact fun z => hc (by rw [show (30 : Int32) = nI 30 from rfl, nI_eq (by omega) (by omega)] at z; exact z))))
          refine SW.aload_n (q := 43) (i := 0) dX8_change_42 rfl rfl rfl ?_
          refine SW.getR (q := 46) (i := 59) (j := 61) fX8_17 rfl rfl dX8_change_43 rfl ?_
          refine SW.aload_n (q := 47) (i := 0) dX8_change_46 rfl rfl rfl ?_
          refine SW.getI (q := 50) (i := 59) fX8_108 rfl rfl dX8_change_47 rfl ?_
          refine SW.aload_n (q := 51) (i := 0) dX8_change_50 rfl rfl rfl ?_
          refine SW.getI (q := 54) (i := 59) fX8_98 rfl rfl dX8_change_51 rfl ?_
          refine SW.iload_n (q := 55) (i := 1) dX8_change_54 rfl rfl rfl ?_
          refine SW.aload_n (q := 56) (i := 0) dX8_change_55 rfl rfl rfl ?_
          refine SW.getI (q := 59) (i := 59) fX8_7 rfl rfl dX8_change_56 rfl ?_
          refine SW.irem (q := 60) dX8_change_59 hne rfl ?_
          refine SW.iadd (q := 61) dX8_change_60 rfl ?_
          refine SW.iastN (q := 62) (k := c) rfl (q4) (by omega) (by decide) dX8_change_61 rfl ?_
          refine SW.aload_n (q := 63) (i := 0) dX8_change_62 rfl rfl rfl ?_
          refine SW.getR (q := 66) (i := 59) (j := 62) fX8_20 rfl rfl dX8_change_63 rfl ?_
          refine SW.aload_n (q := 67) (i := 0) dX8_change_66 rfl rfl rfl ?_
          refine SW.getI (q := 70) (i := 59) fX8_108 rfl rfl dX8_change_67 rfl ?_
          refine SW.aload_n (q := 71) (i := 0) dX8_change_70 rfl rfl rfl ?_
          refine SW.getI (q := 74) (i := 59) fX8_101 rfl rfl dX8_change_71 rfl ?_
          refine SW.iload_n (q := 75) (i := 1) dX8_change_74 rfl rfl rfl ?_
          refine SW.aload_n (q := 76) (i := 0) dX8_change_75 rfl rfl rfl ?_
          refine SW.getI (q := 79) (i := 59) fX8_7 rfl rfl dX8_change_76 rfl ?_
          refine SW.idiv (q := 80) dX8_change_79 (by rw [sw_un (by decide)]; exact hne) rfl ?_
          refine SW.iadd (q := 81) dX8_change_80 rfl ?_
          refine SW.iastN (q := 82) (k := c) rfl ((congrFun (sw_un (by decide)) 6).trans q4) (by omega) (by decide) dX8_change_81 rfl ?_
          refine SW.aload_n (q := 83) (i := 0) dX8_change_82 rfl rfl rfl ?_
          refine SW.getR (q := 86) (i := 59) (j := 63) fX8_23 rfl rfl dX8_change_83 rfl ?_
          refine SW.aload_n (q := 87) (i := 0) dX8_change_86 rfl rfl rfl ?_
          refine SW.getI (q := 90) (i := 59) fX8_108 rfl rfl dX8_change_87 rfl ?_
          refine SW.iload_n (q := 91) (i := 2) dX8_change_90 rfl rfl rfl ?_
          refine SW.iastN (q := 92) (k := c) rfl ((congrFun (sw_un (by decide)) 6).trans ((congrFun (sw_un (by decide)) 6).trans q4)) (by omega) (by decide) dX8_change_91 rfl ?_
          refine SW.aload_n (q := 93) (i := 0) dX8_change_92 rfl rfl rfl ?_
          refine SW.dup (q := 94) dX8_change_93 rfl rfl ?_
          refine SW.getI (q := 97) (i := 59) fX8_108 rfl rfl dX8_change_94 rfl ?_
          refine SW.iconst (q := 98) (v := 1) dX8_change_97 (by decide) rfl ?_
          refine SW.iadd (q := 99) dX8_change_98 rfl ?_
          refine SW.putI (q := 102) (i := 59) pX8_108 rfl rfl dX8_change_99 rfl ?_
          refine SW.aload_n (q := 103) (i := 0) dX8_change_102 rfl rfl rfl ?_
          refine SW.iconst (q := 104) (v := 0) dX8_change_103 (by decide) rfl ?_
          refine SW.put (q := 107) (i := 59) pX8_76 rfl rfl rfl rfl dX8_change_104 rfl ?_
          refine SW.aload_n (q := 108) (i := 0) dX8_change_107 rfl rfl rfl ?_
          refine SW.getI (q := 111) (i := 59) fX8_108 rfl rfl dX8_change_108 rfl ?_
          refine SW.iretR rfl rfl dX8_change_111 ?_
          rw [show (sw_up (sw_up σ 61 c (σ 59 2 + (nI p - nI p / σ 59 1 * σ 59 1))) 62 c ((sw_up σ 61 c (σ 59 2 + (nI p - nI p / σ 59 1 * σ 59 1))) 59 3 + nI p / (sw_up σ 61 c (σ 59 2 + (nI p - nI p / σ 59 1 * σ 59 1))) 59 1)) = sw_up (sw_up σ 61 c (nI (a + p % n))) 62 c (nI (b + p / n)) from by rw [sw_un (by decide), q2, q3, hM.2.2, ex, ey, nI_add, nI_add]]
          have e63 : sw_up (sw_up (sw_up σ 61 c (nI (a + p % n))) 62 c (nI (b + p / n))) 63 c y 59 6 + 1 = nI (c + 1) := by rw [sw_un (by decide), sw_un (by decide), sw_un (by decide), q4, nI_1]
          rw [e63]
          generalize hu : sw_up (sw_up (sw_up (sw_up (sw_up σ 61 c (nI (a + p % n))) 62 c (nI (b + p / n))) 63 c y) 59 6 (nI (c + 1))) 59 10 0 = w
          have f0 : fr_ [59, 61, 62, 63] σ w := by rw [← hu]; exact fr_up (fr_up (fr_up (fr_up (fr_up fr_rf (by decide)) (by decide)) (by decide)) (by decide)) (by decide)
          have s0 : fs_ [6, 10] σ w := by rw [← hu]; exact fs_ups (fs_ups (fs_up (fs_up (fs_up fs_rf (by decide)) (by decide)) (by decide)) (by decide)) (by decide)
          have w6 : w 59 6 = nI (c + 1) := by rw [← hu, sw_o1 (by decide), sw_i1]
          have w10 : w 59 10 = 0 := by rw [← hu, sw_i1]
          have w61 : w 61 = upd (σ 61) c (nI (a + p % n)) := by rw [← hu, sw_un (by decide), sw_un (by decide), sw_un (by decide), sw_un (by decide), sw_up_i]
          have w62 : w 62 = upd (σ 62) c (nI (b + p / n)) := by rw [← hu, sw_un (by decide), sw_un (by decide), sw_un (by decide), sw_up_i, sw_un (by decide)]
          have w63 : w 63 = upd (σ 63) c y := by rw [← hu, sw_un (by decide), sw_un (by decide), sw_up_i, sw_un (by decide), sw_un (by decide)]
          refine ⟨fm_fr f0 (by decide), ⟨s0 0 (by decide), by rw [f0 60 (by decide)]⟩, fun z => absurd ⟨p, hpn, rfl⟩ z, fun p' h e => ⟨fun z => absurd ⟨hy.1, hy.2, y0⟩ z, fun _ => ⟨fun z => absurd z hc, fun _ => ?_⟩⟩⟩
          obtain rfl := inj p' h e
          refine ⟨w6, mI_0 ⟨?_, ⟨?_, qa, ?_, qb⟩, ⟨w6, by omega, fun j hj => ?_⟩, by rw [f0 60 (by decide)]; exact q6, by rw [s0 5 (by decide)]; exact q7⟩ w10, ⟨by rw [w61, upd_i], by rw [w62, upd_i], by rw [w63, upd_i]⟩, fun j hj => by rw [w61, w62, w63, upd_o (by omega), upd_o (by omega), upd_o (by omega)]; exact ⟨rfl, rfl, rfl⟩⟩
          · rw [s0 1 (by decide)]; exact q1
          · rw [s0 2 (by decide)]; exact q2
          · rw [s0 3 (by decide)]; exact q3
          · by_cases z : j = c
            · subst z; rw [w61, w62, upd_i, upd_i]; exact ⟨_, _, by omega, by omega, rfl, rfl⟩
            · rw [w61, w62, upd_o z, upd_o z]; exact q5.2 j (by omega)
    · refine SW.aload_n (q := 1) (i := 0) dX8_change_0 rfl rfl rfl ?_
      refine SW.iload_n (q := 2) (i := 1) dX8_change_1 rfl rfl rfl ?_
      refine SW.cF (q := 5) (C_X8_isPlace hM) vX8_104 (by decide) rfl rfl rfl rfl (Nat.le_of_ble_eq_true rfl) dX8_change_2 rfl ?_
      refine SW.if_ne (q := 8) (tgt := 10) dX8_change_5 (by decide) rfl (fun _ => ?_) (fun c5 => absurd c5 ((W.mpr ⟨p, hpn, rfl⟩)))
      refine SW.iload_n (q := 11) (i := 2) dX8_change_10 rfl rfl rfl ?_
      refine SW.sipush (q := 14) (v := (-400)) dX8_change_11 (by decide) rfl ?_
      refine SW.sipush (q := 17) (v := 400) dX8_change_14 (by decide) rfl ?_
      refine SW.sF (q := 20) (C_X8_in) vX8_69 (by decide) rfl rfl (Nat.le_of_ble_eq_true rfl) dX8_change_17 rfl ?_
      refine SW.if_eq (q := 23) (tgt := 27) dX8_change_20 (by decide) rfl (fun _ => ?_) (fun c20 => absurd ((sw_wi_0 hy)) c20)
      refine SW.bipush (q := 29) (v := (-2)) dX8_change_27 (by decide) rfl ?_
      refine SW.iretR rfl rfl dX8_change_29 ?_
      exact ⟨fm_rf, ⟨rfl, rfl⟩, fun z => absurd ⟨p, hpn, rfl⟩ z, fun p' h e => ⟨fun _ => ⟨rfl, rfl⟩, fun z => absurd ⟨z.1, z.2.1⟩ hy⟩⟩
  · refine SW.aload_n (q := 1) (i := 0) dX8_change_0 rfl rfl rfl ?_
    refine SW.iload_n (q := 2) (i := 1) dX8_change_1 rfl rfl rfl ?_
    refine SW.cF (q := 5) (C_X8_isPlace hM) vX8_104 (by decide) rfl rfl rfl rfl (Nat.le_of_ble_eq_true rfl) dX8_change_2 rfl ?_
    refine SW.if_ne (q := 8) (tgt := 10) dX8_change_5 (by decide) rfl (fun c5 => absurd ((Classical.byContradiction fun z => hp (W.mp z))) c5) (fun _ => ?_)
    refine SW.iconst (q := 9) (v := (-1)) dX8_change_8 (by decide) rfl ?_
    refine SW.iretR rfl rfl dX8_change_9 ?_
    exact ⟨fm_rf, ⟨rfl, rfl⟩, fun _ => ⟨rfl, rfl⟩, fun q h e => absurd ⟨q, h, e⟩ hp⟩
end MCHANGE
