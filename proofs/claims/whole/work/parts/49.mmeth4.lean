/-! the reference's own methods: towns, what is told, about, many -/
section MMETH4

variable {X : sw_X} {σ τ u : sw_Sg} {x y v w st what : Int32} {n a b c sea g br wn k s M p : Nat} {L : List Nat}
def md_ (u : sw_Sg) (what : Int32) : Int32 := if what = 0 then u 59 1 else if what = 1 then u 59 2 else if what = 2 then u 59 3 else if what = 3 then u 60 0 else if what = 4 then u 60 1 else if what = 5 then u 60 2 else if what = 6 then u 60 3 else if what = 7 then u 59 19 else if what = 8 then u 59 5 else if what = 9 then u 59 6 else if what = 10 then u 59 0 else -2
def am_ (n : Nat) (u : sw_Sg) (q : Nat) (what : Int32) : Int32 := if what = 0 then u 64 q else if what = 1 then u 65 q else if what = 2 then u 66 q else if what = 3 then u 69 q else if what = 5 then u 67 q else if what = 6 then tw_worth n (u 64) (u 70) (u 69) q else -2
theorem C_X8_told (hI : mI_ n a b c sea g br wn σ) :
    sw_Mi X 5 mX8_told [.ref (sw_ad X 59), .int what] σ (fun v u => mQ_ n a b c sea g br wn σ u ∧ v = md_ u what) := by
  refine sw_ME.ofF (by decide +kernel) rfl (Nat.le_of_ble_eq_true rfl) rfl ?_

  by_cases w0 : what = 0
  · refine SW.aload_n (q := 1) (i := 0) dX8_told_0 rfl rfl rfl ?_
    refine SW.cV (q := 4) (C_X8_lay hI) vX8_177 (by decide) rfl rfl rfl rfl (Nat.le_of_ble_eq_true rfl) dX8_told_1 rfl (fun u1 r1 => ?_)
    obtain ⟨g1, g2, g3⟩ := r1
    refine SW.iload_n (q := 5) (i := 1) dX8_told_4 rfl rfl rfl ?_
    refine SW.tableK (q := 64) (k := 0) (off := 59) dX8_told_5 w0 (by decide) (by decide) rfl (by decide) ?_
    refine SW.aload_n (q := 65) (i := 0) dX8_told_64 rfl rfl rfl ?_
    refine SW.getI (q := 68) (i := 59) fX8_7 rfl rfl dX8_told_65 rfl ?_
    refine SW.iretR rfl rfl dX8_told_68 ?_
    exact ⟨⟨fm_fr g1 (by decide), me_fr g1 g2 (by decide) (by decide), g3⟩, by rw [md_, if_pos w0]⟩
  by_cases w1 : what = 1
  · refine SW.aload_n (q := 1) (i := 0) dX8_told_0 rfl rfl rfl ?_
    refine SW.cV (q := 4) (C_X8_lay hI) vX8_177 (by decide) rfl rfl rfl rfl (Nat.le_of_ble_eq_true rfl) dX8_told_1 rfl (fun u1 r1 => ?_)
    obtain ⟨g1, g2, g3⟩ := r1
    refine SW.iload_n (q := 5) (i := 1) dX8_told_4 rfl rfl rfl ?_
    refine SW.tableK (q := 69) (k := 1) (off := 64) dX8_told_5 w1 (by decide) (by decide) rfl (by decide) ?_
    refine SW.aload_n (q := 70) (i := 0) dX8_told_69 rfl rfl rfl ?_
    refine SW.getI (q := 73) (i := 59) fX8_98 rfl rfl dX8_told_70 rfl ?_
    refine SW.iretR rfl rfl dX8_told_73 ?_
    exact ⟨⟨fm_fr g1 (by decide), me_fr g1 g2 (by decide) (by decide), g3⟩, by rw [md_, if_neg w0, if_pos w1]⟩
  by_cases w2 : what = 2
  · refine SW.aload_n (q := 1) (i := 0) dX8_told_0 rfl rfl rfl ?_
    refine SW.cV (q := 4) (C_X8_lay hI) vX8_177 (by decide) rfl rfl rfl rfl (Nat.le_of_ble_eq_true rfl) dX8_told_1 rfl (fun u1 r1 => ?_)
    obtain ⟨g1, g2, g3⟩ := r1
    refine SW.iload_n (q := 5) (i := 1) dX8_told_4 rfl rfl rfl ?_
    refine SW.tableK (q := 74) (k := 2) (off := 69) dX8_told_5 w2 (by decide) (by decide) rfl (by decide) ?_
    refine SW.aload_n (q := 75) (i := 0) dX8_told_74 rfl rfl rfl ?_
    refine SW.getI (q := 78) (i := 59) fX8_101 rfl rfl dX8_told_75 rfl ?_
    refine SW.iretR rfl rfl dX8_told_78 ?_
    exact ⟨⟨fm_fr g1 (by decide), me_fr g1 g2 (by decide) (by decide), g3⟩, by rw [md_, if_neg w0, if_neg w1, if_pos w2]⟩
  by_cases w3 : what = 3
  · refine SW.aload_n (q := 1) (i := 0) dX8_told_0 rfl rfl rfl ?_
    refine SW.cV (q := 4) (C_X8_lay hI) vX8_177 (by decide) rfl rfl rfl rfl (Nat.le_of_ble_eq_true rfl) dX8_told_1 rfl (fun u1 r1 => ?_)
    obtain ⟨g1, g2, g3⟩ := r1
    refine SW.iload_n (q := 5) (i := 1) dX8_told_4 rfl rfl rfl ?_
    refine SW.tableK (q := 79) (k := 3) (off := 74) dX8_told_5 w3 (by decide) (by decide) rfl (by decide) ?_
    refine SW.aload_n (q := 80) (i := 0) dX8_told_79 rfl rfl rfl ?_
    refine SW.getR (q := 83) (i := 59) (j := 60) fX8_13 rfl rfl dX8_told_80 rfl ?_
    refine SW.iconst (q := 84) (v := 0) dX8_told_83 (by decide) rfl ?_
    refine SW.ialdN (q := 85) (k := 0) rfl (rfl) (by decide) (by decide) dX8_told_84 rfl ?_
    refine SW.iretR rfl rfl dX8_told_85 ?_
    exact ⟨⟨fm_fr g1 (by decide), me_fr g1 g2 (by decide) (by decide), g3⟩, by rw [md_, if_neg w0, if_neg w1, if_neg w2, if_pos w3]⟩
  by_cases w4 : what = 4
  · refine SW.aload_n (q := 1) (i := 0) dX8_told_0 rfl rfl rfl ?_
    refine SW.cV (q := 4) (C_X8_lay hI) vX8_177 (by decide) rfl rfl rfl rfl (Nat.le_of_ble_eq_true rfl) dX8_told_1 rfl (fun u1 r1 => ?_)
    obtain ⟨g1, g2, g3⟩ := r1
    refine SW.iload_n (q := 5) (i := 1) dX8_told_4 rfl rfl rfl ?_
    refine SW.tableK (q := 86) (k := 4) (off := 81) dX8_told_5 w4 (by decide) (by decide) rfl (by decide) ?_
    refine SW.aload_n (q := 87) (i := 0) dX8_told_86 rfl rfl rfl ?_
    refine SW.getR (q := 90) (i := 59) (j := 60) fX8_13 rfl rfl dX8_told_87 rfl ?_
    refine SW.iconst (q := 91) (v := 1) dX8_told_90 (by decide) rfl ?_
    refine SW.ialdN (q := 92) (k := 1) rfl (rfl) (by decide) (by decide) dX8_told_91 rfl ?_
    refine SW.iretR rfl rfl dX8_told_92 ?_
    exact ⟨⟨fm_fr g1 (by decide), me_fr g1 g2 (by decide) (by decide), g3⟩, by rw [md_, if_neg w0, if_neg w1, if_neg w2, if_neg w3, if_pos w4]⟩
  by_cases w5 : what = 5
  · refine SW.aload_n (q := 1) (i := 0) dX8_told_0 rfl rfl rfl ?_
    refine SW.cV (q := 4) (C_X8_lay hI) vX8_177 (by decide) rfl rfl rfl rfl (Nat.le_of_ble_eq_true rfl) dX8_told_1 rfl (fun u1 r1 => ?_)
    obtain ⟨g1, g2, g3⟩ := r1
    refine SW.iload_n (q := 5) (i := 1) dX8_told_4 rfl rfl rfl ?_
    refine SW.tableK (q := 93) (k := 5) (off := 88) dX8_told_5 w5 (by decide) (by decide) rfl (by decide) ?_
    refine SW.aload_n (q := 94) (i := 0) dX8_told_93 rfl rfl rfl ?_
    refine SW.getR (q := 97) (i := 59) (j := 60) fX8_13 rfl rfl dX8_told_94 rfl ?_
    refine SW.iconst (q := 98) (v := 2) dX8_told_97 (by decide) rfl ?_
    refine SW.ialdN (q := 99) (k := 2) rfl (rfl) (by decide) (by decide) dX8_told_98 rfl ?_
    refine SW.iretR rfl rfl dX8_told_99 ?_
    exact ⟨⟨fm_fr g1 (by decide), me_fr g1 g2 (by decide) (by decide), g3⟩, by rw [md_, if_neg w0, if_neg w1, if_neg w2, if_neg w3, if_neg w4, if_pos w5]⟩
  by_cases w6 : what = 6
  · refine SW.aload_n (q := 1) (i := 0) dX8_told_0 rfl rfl rfl ?_
    refine SW.cV (q := 4) (C_X8_lay hI) vX8_177 (by decide) rfl rfl rfl rfl (Nat.le_of_ble_eq_true rfl) dX8_told_1 rfl (fun u1 r1 => ?_)
    obtain ⟨g1, g2, g3⟩ := r1
    refine SW.iload_n (q := 5) (i := 1) dX8_told_4 rfl rfl rfl ?_
    refine SW.tableK (q := 100) (k := 6) (off := 95) dX8_told_5 w6 (by decide) (by decide) rfl (by decide) ?_
    refine SW.aload_n (q := 101) (i := 0) dX8_told_100 rfl rfl rfl ?_
    refine SW.getR (q := 104) (i := 59) (j := 60) fX8_13 rfl rfl dX8_told_101 rfl ?_
    refine SW.iconst (q := 105) (v := 3) dX8_told_104 (by decide) rfl ?_
    refine SW.ialdN (q := 106) (k := 3) rfl (rfl) (by decide) (by decide) dX8_told_105 rfl ?_
    refine SW.iretR rfl rfl dX8_told_106 ?_
    exact ⟨⟨fm_fr g1 (by decide), me_fr g1 g2 (by decide) (by decide), g3⟩, by rw [md_, if_neg w0, if_neg w1, if_neg w2, if_neg w3, if_neg w4, if_neg w5, if_pos w6]⟩
  by_cases w7 : what = 7
  · refine SW.aload_n (q := 1) (i := 0) dX8_told_0 rfl rfl rfl ?_
    refine SW.cV (q := 4) (C_X8_lay hI) vX8_177 (by decide) rfl rfl rfl rfl (Nat.le_of_ble_eq_true rfl) dX8_told_1 rfl (fun u1 r1 => ?_)
    obtain ⟨g1, g2, g3⟩ := r1
    refine SW.iload_n (q := 5) (i := 1) dX8_told_4 rfl rfl rfl ?_
    refine SW.tableK (q := 107) (k := 7) (off := 102) dX8_told_5 w7 (by decide) (by decide) rfl (by decide) ?_
    refine SW.aload_n (q := 108) (i := 0) dX8_told_107 rfl rfl rfl ?_
    refine SW.getI (q := 111) (i := 59) fX8_134 rfl rfl dX8_told_108 rfl ?_
    refine SW.iretR rfl rfl dX8_told_111 ?_
    exact ⟨⟨fm_fr g1 (by decide), me_fr g1 g2 (by decide) (by decide), g3⟩, by rw [md_, if_neg w0, if_neg w1, if_neg w2, if_neg w3, if_neg w4, if_neg w5, if_neg w6, if_pos w7]⟩
  by_cases w8 : what = 8
  · refine SW.aload_n (q := 1) (i := 0) dX8_told_0 rfl rfl rfl ?_
    refine SW.cV (q := 4) (C_X8_lay hI) vX8_177 (by decide) rfl rfl rfl rfl (Nat.le_of_ble_eq_true rfl) dX8_told_1 rfl (fun u1 r1 => ?_)
    obtain ⟨g1, g2, g3⟩ := r1
    refine SW.iload_n (q := 5) (i := 1) dX8_told_4 rfl rfl rfl ?_
    refine SW.tableK (q := 112) (k := 8) (off := 107) dX8_told_5 w8 (by decide) (by decide) rfl (by decide) ?_
    refine SW.aload_n (q := 113) (i := 0) dX8_told_112 rfl rfl rfl ?_
    refine SW.getI (q := 116) (i := 59) fX8_137 rfl rfl dX8_told_113 rfl ?_
    refine SW.iretR rfl rfl dX8_told_116 ?_
    exact ⟨⟨fm_fr g1 (by decide), me_fr g1 g2 (by decide) (by decide), g3⟩, by rw [md_, if_neg w0, if_neg w1, if_neg w2, if_neg w3, if_neg w4, if_neg w5, if_neg w6, if_neg w7, if_pos w8]⟩
  by_cases w9 : what = 9
  · refine SW.aload_n (q := 1) (i := 0) dX8_told_0 rfl rfl rfl ?_
    refine SW.cV (q := 4) (C_X8_lay hI) vX8_177 (by decide) rfl rfl rfl rfl (Nat.le_of_ble_eq_true rfl) dX8_told_1 rfl (fun u1 r1 => ?_)
    obtain ⟨g1, g2, g3⟩ := r1
    refine SW.iload_n (q := 5) (i := 1) dX8_told_4 rfl rfl rfl ?_
    refine SW.tableK (q := 117) (k := 9) (off := 112) dX8_told_5 w9 (by decide) (by decide) rfl (by decide) ?_
    refine SW.aload_n (q := 118) (i := 0) dX8_told_117 rfl rfl rfl ?_
    refine SW.getI (q := 121) (i := 59) fX8_108 rfl rfl dX8_told_118 rfl ?_
    refine SW.iretR rfl rfl dX8_told_121 ?_
    exact ⟨⟨fm_fr g1 (by decide), me_fr g1 g2 (by decide) (by decide), g3⟩, by rw [md_, if_neg w0, if_neg w1, if_neg w2, if_neg w3, if_neg w4, if_neg w5, if_neg w6, if_neg w7, if_neg w8, if_pos w9]⟩
  by_cases w10 : what = 10
  · refine SW.aload_n (q := 1) (i := 0) dX8_told_0 rfl rfl rfl ?_
    refine SW.cV (q := 4) (C_X8_lay hI) vX8_177 (by decide) rfl rfl rfl rfl (Nat.le_of_ble_eq_true rfl) dX8_told_1 rfl (fun u1 r1 => ?_)
    obtain ⟨g1, g2, g3⟩ := r1
    refine SW.iload_n (q := 5) (i := 1) dX8_told_4 rfl rfl rfl ?_
    refine SW.tableK (q := 122) (k := 10) (off := 117) dX8_told_5 w10 (by decide) (by decide) rfl (by decide) ?_
    refine SW.aload_n (q := 123) (i := 0) dX8_told_122 rfl rfl rfl ?_
    refine SW.getI (q := 126) (i := 59) fX8_73 rfl rfl dX8_told_123 rfl ?_
    refine SW.iretR rfl rfl dX8_told_126 ?_
    exact ⟨⟨fm_fr g1 (by decide), me_fr g1 g2 (by decide) (by decide), g3⟩, by rw [md_, if_neg w0, if_neg w1, if_neg w2, if_neg w3, if_neg w4, if_neg w5, if_neg w6, if_neg w7, if_neg w8, if_neg w9, if_pos w10]⟩
  refine SW.aload_n (q := 1) (i := 0) dX8_told_0 rfl rfl rfl ?_
  refine SW.cV (q := 4) (C_X8_lay hI) vX8_177 (by decide) rfl rfl rfl rfl (Nat.le_of_ble_eq_true rfl) dX8_told_1 rfl (fun u1 r1 => ?_)
  obtain ⟨g1, g2, g3⟩ := r1
  refine SW.iload_n (q := 5) (i := 1) dX8_told_4 rfl rfl rfl ?_
  refine SW.tableOut (q := 127) dX8_told_5 ((sw_out 0 10 (by decide) (by decide) (fun k h1 h2 => by rcases (show k = 0 ∨ k = 1 ∨ k = 2 ∨ k = 3 ∨ k = 4 ∨ k = 5 ∨ k = 6 ∨ k = 7 ∨ k = 8 ∨ k = 9 ∨ k = 10 by omega) with rfl | rfl | rfl | rfl | rfl | rfl | rfl | rfl | rfl | rfl | rfl <;> assumption))) (by decide) ?_
  refine SW.bipush (q := 129) (v := (-2)) dX8_told_127 (by decide) rfl ?_
  refine SW.iretR rfl rfl dX8_told_129 ?_
  exact ⟨⟨fm_fr g1 (by decide), me_fr g1 g2 (by decide) (by decide), g3⟩, by rw [md_, if_neg w0, if_neg w1, if_neg w2, if_neg w3, if_neg w4, if_neg w5, if_neg w6, if_neg w7, if_neg w8, if_neg w9, if_neg w10]⟩
theorem C_X8_towns (hI : mI_ n a b c sea g br wn σ) :
    sw_Mi X 5 mX8_towns [.ref (sw_ad X 59), .int x] σ (fun v u => ((¬ ∃ i, i ≤ 6 ∧ x = nI i) → v = -2 ∧ u = σ) ∧ ∀ i, i ≤ 6 → x = nI i → mQ_ n a b c sea g br i σ u ∧ v = u 59 19) := by
  refine sw_ME.ofF (by decide +kernel) rfl (Nat.le_of_ble_eq_true rfl) rfl ?_
  have W := wi_N (x := x) (lo := 0) (hi := 6) (by omega) (by omega)
  by_cases hw : ∃ i, i ≤ 6 ∧ x = nI i
  · obtain ⟨i, i6, rfl⟩ := hw
    obtain ⟨⟨q1, q2, ⟨q3, q4⟩, q5, q6⟩, -⟩ := hI
    have f0 : fr_ [59] σ (sw_up (sw_up σ 59 5 (nI i)) 59 10 0) := fr_up (fr_up fr_rf (by decide)) (by decide)
    have s0 : fs_ [5, 10] σ (sw_up (sw_up σ 59 5 (nI i)) 59 10 0) := fs_ups (fs_ups fs_rf (by decide)) (by decide)
    have hI2 : mI_ n a b c sea g br i (sw_up (sw_up σ 59 5 (nI i)) 59 10 0) := by
      refine ⟨?_, Or.inl sw_i1⟩
      unfold mk_ gr_chs
      rw [s0 1 (by decide), s0 2 (by decide), s0 3 (by decide), s0 6 (by decide), f0 60 (by decide), f0 61 (by decide), f0 62 (by decide), sw_o1 (by decide), sw_i1]
      exact ⟨q1, q2, ⟨q3, q4⟩, q5, rfl, i6⟩
    refine SW.iload_n (q := 1) (i := 1) dX8_towns_0 rfl rfl rfl ?_
    refine SW.iconst (q := 2) (v := 0) dX8_towns_1 (by decide) rfl ?_
    refine SW.bipush (q := 4) (v := 6) dX8_towns_2 (by decide) rfl ?_
    refine SW.sF (q := 7) (C_X8_in) vX8_69 (by decide) rfl rfl (Nat.le_of_ble_eq_true rfl) dX8_towns_4 rfl ?_
    refine SW.if_ne (q := 10) (tgt := 13) dX8_towns_7 (by decide) rfl (fun _ => ?_) (fun c7 => absurd c7 ((W.mpr ⟨i, by omega, i6, rfl⟩)))
    refine SW.aload_n (q := 14) (i := 0) dX8_towns_13 rfl rfl rfl ?_
    refine SW.iload_n (q := 15) (i := 1) dX8_towns_14 rfl rfl rfl ?_
    refine SW.putI (q := 18) (i := 59) pX8_137 rfl rfl dX8_towns_15 rfl ?_
    refine SW.aload_n (q := 19) (i := 0) dX8_towns_18 rfl rfl rfl ?_
    refine SW.iconst (q := 20) (v := 0) dX8_towns_19 (by decide) rfl ?_
    refine SW.put (q := 23) (i := 59) pX8_76 rfl rfl rfl rfl dX8_towns_20 rfl ?_
    refine SW.aload_n (q := 24) (i := 0) dX8_towns_23 rfl rfl rfl ?_
    refine SW.cV (q := 27) (C_X8_lay hI2) vX8_177 (by decide) rfl rfl rfl rfl (Nat.le_of_ble_eq_true rfl) dX8_towns_24 rfl (fun u24 r24 => ?_)
    obtain ⟨g1, g2, g3⟩ := r24
    refine SW.aload_n (q := 28) (i := 0) dX8_towns_27 rfl rfl rfl ?_
    refine SW.getI (q := 31) (i := 59) fX8_134 rfl rfl dX8_towns_28 rfl ?_
    refine SW.iretR rfl rfl dX8_towns_31 ?_
    have f1 : fr_ [59, 64, 65, 66, 67, 68, 69, 70, 71, 72, 73, 74, 75, 76] σ u24 := fr_tr (fr_sub f0 (by decide)) g1 (by decide)
    have s1 : fs_ [5, 10, 18, 19, 21, 22, 23] σ u24 := fs_tr (fs_tr fs_rf s0 (by decide)) g2 (by decide)
    refine ⟨fun z => absurd ⟨i, i6, rfl⟩ z, fun i' h' e => ?_⟩
    rw [nI_eq (by omega) (by omega)] at e
    subst e
    exact ⟨⟨fm_fr f1 (by decide), me_fr f1 s1 (by decide) (by decide), g3⟩, rfl⟩
  · refine SW.iload_n (q := 1) (i := 1) dX8_towns_0 rfl rfl rfl ?_
    refine SW.iconst (q := 2) (v := 0) dX8_towns_1 (by decide) rfl ?_
    refine SW.bipush (q := 4) (v := 6) dX8_towns_2 (by decide) rfl ?_
    refine SW.sF (q := 7) (C_X8_in) vX8_69 (by decide) rfl rfl (Nat.le_of_ble_eq_true rfl) dX8_towns_4 rfl ?_
    refine SW.if_ne (q := 10) (tgt := 13) dX8_towns_7 (by decide) rfl (fun c7 => absurd ((Classical.byContradiction fun z => hw (by obtain ⟨j, _, j2, j3⟩ := W.mp z; exact ⟨j, j2, j3⟩))) c7) (fun _ => ?_)
    refine SW.bipush (q := 12) (v := (-2)) dX8_towns_10 (by decide) rfl ?_
    refine SW.iretR rfl rfl dX8_towns_12 ?_
    exact ⟨fun _ => ⟨rfl, rfl⟩, fun i h1 e => absurd ⟨i, h1, e⟩ hw⟩
theorem C_X8_about (hI : mI_ n a b c sea g br wn σ) :
    sw_Mi X 5 mX8_about [.ref (sw_ad X 59), .int x, .int what] σ (fun v u => ((¬ ∃ q, q < n * n ∧ x = nI q) → v = -1 ∧ u = σ) ∧ ∀ q, q < n * n → x = nI q → mQ_ n a b c sea g br wn σ u ∧ (¬ what = 4 → v = am_ n u q what) ∧ (what = 4 → ∃ h T lv od D, (∀ p, p < n * n → gr_ht (u 59 0) (u 61) (u 62) (u 63) c a b n p = nI (h p) ∧ h p ≤ 400 ∧ u 64 p = nI (h p)) ∧ ww_F n h sea (u 60 1) T lv od D 65 66 69 67 70 u ∧ ∃ r, r < n * n ∧ v = nI r ∧ ∀ O : Nat → Nat, (∀ q, q < n * n → (D q = none → O q = q) ∧ ∀ r, D q = some r → O q = O r) → r = O q)) := by
  have hM : gr_M σ n := hI.1.1
  have n24 := hM.2.1
  have h576 := gr_576 n24
  have W := mpl_ (x := x) hM.1 n24
  refine sw_ME.ofF (by decide +kernel) rfl (Nat.le_of_ble_eq_true rfl) rfl ?_
  by_cases hp : ∃ q, q < n * n ∧ x = nI q
  · obtain ⟨q, hq, rfl⟩ := hp

    by_cases w0 : what = 0
    · refine SW.aload_n (q := 1) (i := 0) dX8_about_0 rfl rfl rfl ?_
      refine SW.iload_n (q := 2) (i := 1) dX8_about_1 rfl rfl rfl ?_
      refine SW.cF (q := 5) (C_X8_isPlace hM) vX8_104 (by decide) rfl rfl rfl rfl (Nat.le_of_ble_eq_true rfl) dX8_about_2 rfl ?_
      refine SW.if_ne (q := 8) (tgt := 10) dX8_about_5 (by decide) rfl (fun _ => ?_) (fun c5 => absurd c5 ((W.mpr ⟨q, hq, rfl⟩)))
      refine SW.aload_n (q := 11) (i := 0) dX8_about_10 rfl rfl rfl ?_
      refine SW.cV (q := 14) (C_X8_lay hI) vX8_177 (by decide) rfl rfl rfl rfl (Nat.le_of_ble_eq_true rfl) dX8_about_11 rfl (fun u11 r11 => ?_)
      obtain ⟨g1, g2, g3⟩ := r11
      have hQ : mQ_ n a b c sea g br wn σ u11 := ⟨fm_fr g1 (by decide), me_fr g1 g2 (by decide) (by decide), g3⟩
      refine SW.iload_n (q := 15) (i := 2) dX8_about_14 rfl rfl rfl ?_
      refine SW.tableK (q := 56) (k := 0) (off := 41) dX8_about_15 w0 (by decide) (by decide) rfl (by decide) ?_
      refine SW.aload_n (q := 57) (i := 0) dX8_about_56 rfl rfl rfl ?_
      refine SW.getR (q := 60) (i := 59) (j := 64) fX8_26 rfl rfl dX8_about_57 rfl ?_
      refine SW.iload_n (q := 61) (i := 1) dX8_about_60 rfl rfl rfl ?_
      refine SW.ialdN (q := 62) (k := q) rfl (rfl) (by omega) (by decide) dX8_about_61 rfl ?_
      refine SW.iretR rfl rfl dX8_about_62 ?_
      exact ⟨fun z => absurd ⟨q, hq, rfl⟩ z, fun q' h' e => by rw [nI_eq (by omega) (by omega)] at e; subst e; exact ⟨hQ, fun _ => by rw [am_, if_pos w0], fun z => absurd (w0.symm.trans z) (by decide)⟩⟩
    by_cases w1 : what = 1
    · refine SW.aload_n (q := 1) (i := 0) dX8_about_0 rfl rfl rfl ?_
      refine SW.iload_n (q := 2) (i := 1) dX8_about_1 rfl rfl rfl ?_
      refine SW.cF (q := 5) (C_X8_isPlace hM) vX8_104 (by decide) rfl rfl rfl rfl (Nat.le_of_ble_eq_true rfl) dX8_about_2 rfl ?_
      refine SW.if_ne (q := 8) (tgt := 10) dX8_about_5 (by decide) rfl (fun _ => ?_) (fun c5 => absurd c5 ((W.mpr ⟨q, hq, rfl⟩)))
      refine SW.aload_n (q := 11) (i := 0) dX8_about_10 rfl rfl rfl ?_
      refine SW.cV (q := 14) (C_X8_lay hI) vX8_177 (by decide) rfl rfl rfl rfl (Nat.le_of_ble_eq_true rfl) dX8_about_11 rfl (fun u11 r11 => ?_)
      obtain ⟨g1, g2, g3⟩ := r11
      have hQ : mQ_ n a b c sea g br wn σ u11 := ⟨fm_fr g1 (by decide), me_fr g1 g2 (by decide) (by decide), g3⟩
      refine SW.iload_n (q := 15) (i := 2) dX8_about_14 rfl rfl rfl ?_
      refine SW.tableK (q := 63) (k := 1) (off := 48) dX8_about_15 w1 (by decide) (by decide) rfl (by decide) ?_
      refine SW.aload_n (q := 64) (i := 0) dX8_about_63 rfl rfl rfl ?_
      refine SW.getR (q := 67) (i := 59) (j := 65) fX8_29 rfl rfl dX8_about_64 rfl ?_
      refine SW.iload_n (q := 68) (i := 1) dX8_about_67 rfl rfl rfl ?_
      refine SW.ialdN (q := 69) (k := q) rfl (rfl) (by omega) (by decide) dX8_about_68 rfl ?_
      refine SW.iretR rfl rfl dX8_about_69 ?_
      exact ⟨fun z => absurd ⟨q, hq, rfl⟩ z, fun q' h' e => by rw [nI_eq (by omega) (by omega)] at e; subst e; exact ⟨hQ, fun _ => by rw [am_, if_neg w0, if_pos w1], fun z => absurd (w1.symm.trans z) (by decide)⟩⟩
    by_cases w2 : what = 2
    · refine SW.aload_n (q := 1) (i := 0) dX8_about_0 rfl rfl rfl ?_
      refine SW.iload_n (q := 2) (i := 1) dX8_about_1 rfl rfl rfl ?_
      refine SW.cF (q := 5) (C_X8_isPlace hM) vX8_104 (by decide) rfl rfl rfl rfl (Nat.le_of_ble_eq_true rfl) dX8_about_2 rfl ?_
      refine SW.if_ne (q := 8) (tgt := 10) dX8_about_5 (by decide) rfl (fun _ => ?_) (fun c5 => absurd c5 ((W.mpr ⟨q, hq, rfl⟩)))
      refine SW.aload_n (q := 11) (i := 0) dX8_about_10 rfl rfl rfl ?_
      refine SW.cV (q := 14) (C_X8_lay hI) vX8_177 (by decide) rfl rfl rfl rfl (Nat.le_of_ble_eq_true rfl) dX8_about_11 rfl (fun u11 r11 => ?_)
      obtain ⟨g1, g2, g3⟩ := r11
      have hQ : mQ_ n a b c sea g br wn σ u11 := ⟨fm_fr g1 (by decide), me_fr g1 g2 (by decide) (by decide), g3⟩
      refine SW.iload_n (q := 15) (i := 2) dX8_about_14 rfl rfl rfl ?_
      refine SW.tableK (q := 70) (k := 2) (off := 55) dX8_about_15 w2 (by decide) (by decide) rfl (by decide) ?_
      refine SW.aload_n (q := 71) (i := 0) dX8_about_70 rfl rfl rfl ?_
      refine SW.getR (q := 74) (i := 59) (j := 66) fX8_32 rfl rfl dX8_about_71 rfl ?_
      refine SW.iload_n (q := 75) (i := 1) dX8_about_74 rfl rfl rfl ?_
      refine SW.ialdN (q := 76) (k := q) rfl (rfl) (by omega) (by decide) dX8_about_75 rfl ?_
      refine SW.iretR rfl rfl dX8_about_76 ?_
      exact ⟨fun z => absurd ⟨q, hq, rfl⟩ z, fun q' h' e => by rw [nI_eq (by omega) (by omega)] at e; subst e; exact ⟨hQ, fun _ => by rw [am_, if_neg w0, if_neg w1, if_pos w2], fun z => absurd (w2.symm.trans z) (by decide)⟩⟩
    by_cases w3 : what = 3
    · refine SW.aload_n (q := 1) (i := 0) dX8_about_0 rfl rfl rfl ?_
      refine SW.iload_n (q := 2) (i := 1) dX8_about_1 rfl rfl rfl ?_
      refine SW.cF (q := 5) (C_X8_isPlace hM) vX8_104 (by decide) rfl rfl rfl rfl (Nat.le_of_ble_eq_true rfl) dX8_about_2 rfl ?_
      refine SW.if_ne (q := 8) (tgt := 10) dX8_about_5 (by decide) rfl (fun _ => ?_) (fun c5 => absurd c5 ((W.mpr ⟨q, hq, rfl⟩)))
      refine SW.aload_n (q := 11) (i := 0) dX8_about_10 rfl rfl rfl ?_
      refine SW.cV (q := 14) (C_X8_lay hI) vX8_177 (by decide) rfl rfl rfl rfl (Nat.le_of_ble_eq_true rfl) dX8_about_11 rfl (fun u11 r11 => ?_)
      obtain ⟨g1, g2, g3⟩ := r11
      have hQ : mQ_ n a b c sea g br wn σ u11 := ⟨fm_fr g1 (by decide), me_fr g1 g2 (by decide) (by decide), g3⟩
      refine SW.iload_n (q := 15) (i := 2) dX8_about_14 rfl rfl rfl ?_
      refine SW.tableK (q := 77) (k := 3) (off := 62) dX8_about_15 w3 (by decide) (by decide) rfl (by decide) ?_
      refine SW.aload_n (q := 78) (i := 0) dX8_about_77 rfl rfl rfl ?_
      refine SW.getR (q := 81) (i := 59) (j := 69) fX8_41 rfl rfl dX8_about_78 rfl ?_
      refine SW.iload_n (q := 82) (i := 1) dX8_about_81 rfl rfl rfl ?_
      refine SW.ialdN (q := 83) (k := q) rfl (rfl) (by omega) (by decide) dX8_about_82 rfl ?_
      refine SW.iretR rfl rfl dX8_about_83 ?_
      exact ⟨fun z => absurd ⟨q, hq, rfl⟩ z, fun q' h' e => by rw [nI_eq (by omega) (by omega)] at e; subst e; exact ⟨hQ, fun _ => by rw [am_, if_neg w0, if_neg w1, if_neg w2, if_pos w3], fun z => absurd (w3.symm.trans z) (by decide)⟩⟩
    by_cases w4 : what = 4
    · refine SW.aload_n (q := 1) (i := 0) dX8_about_0 rfl rfl rfl ?_
      refine SW.iload_n (q := 2) (i := 1) dX8_about_1 rfl rfl rfl ?_
      refine SW.cF (q := 5) (C_X8_isPlace hM) vX8_104 (by decide) rfl rfl rfl rfl (Nat.le_of_ble_eq_true rfl) dX8_about_2 rfl ?_
      refine SW.if_ne (q := 8) (tgt := 10) dX8_about_5 (by decide) rfl (fun _ => ?_) (fun c5 => absurd c5 ((W.mpr ⟨q, hq, rfl⟩)))
      refine SW.aload_n (q := 11) (i := 0) dX8_about_10 rfl rfl rfl ?_
      refine SW.cV (q := 14) (C_X8_lay hI) vX8_177 (by decide) rfl rfl rfl rfl (Nat.le_of_ble_eq_true rfl) dX8_about_11 rfl (fun u11 r11 => ?_)
      obtain ⟨g1, g2, g3⟩ := r11
      have hQ : mQ_ n a b c sea g br wn σ u11 := ⟨fm_fr g1 (by decide), me_fr g1 g2 (by decide) (by decide), g3⟩
      obtain ⟨hK, hl, hh, m1, ⟨T, lv, od, D, m2⟩, -⟩ := g3
      refine SW.iload_n (q := 15) (i := 2) dX8_about_14 rfl rfl rfl ?_
      refine SW.tableK (q := 84) (k := 4) (off := 69) dX8_about_15 w4 (by decide) (by decide) rfl (by decide) ?_
      refine SW.aload_n (q := 85) (i := 0) dX8_about_84 rfl rfl rfl ?_
      refine SW.iload_n (q := 86) (i := 1) dX8_about_85 rfl rfl rfl ?_
      refine SW.cR (q := 89) (C_X8_outletOf (h := hh) (sea := sea) (T := T) (lv := lv) (od := od) (D := D) (p := q) n24 m2.1 (fun p hp => (m2.2 p hp).2.2.1) rfl hq) vX8_180 (by decide) rfl rfl rfl rfl (Nat.le_of_ble_eq_true rfl) dX8_about_86 rfl (fun v86 u86 r86 => ?_)
      obtain ⟨rfl, r, w1, w2, w3⟩ := r86
      refine SW.iretR rfl rfl dX8_about_89 ?_
      exact ⟨fun z => absurd ⟨q, hq, rfl⟩ z, fun q' h' e => by rw [nI_eq (by omega) (by omega)] at e; subst e; exact ⟨hQ, fun z => absurd w4 z, fun _ => ⟨hh, T, lv, od, D, m1, m2, r, w1, w2, w3⟩⟩⟩
    by_cases w5 : what = 5
    · refine SW.aload_n (q := 1) (i := 0) dX8_about_0 rfl rfl rfl ?_
      refine SW.iload_n (q := 2) (i := 1) dX8_about_1 rfl rfl rfl ?_
      refine SW.cF (q := 5) (C_X8_isPlace hM) vX8_104 (by decide) rfl rfl rfl rfl (Nat.le_of_ble_eq_true rfl) dX8_about_2 rfl ?_
      refine SW.if_ne (q := 8) (tgt := 10) dX8_about_5 (by decide) rfl (fun _ => ?_) (fun c5 => absurd c5 ((W.mpr ⟨q, hq, rfl⟩)))
      refine SW.aload_n (q := 11) (i := 0) dX8_about_10 rfl rfl rfl ?_
      refine SW.cV (q := 14) (C_X8_lay hI) vX8_177 (by decide) rfl rfl rfl rfl (Nat.le_of_ble_eq_true rfl) dX8_about_11 rfl (fun u11 r11 => ?_)
      obtain ⟨g1, g2, g3⟩ := r11
      have hQ : mQ_ n a b c sea g br wn σ u11 := ⟨fm_fr g1 (by decide), me_fr g1 g2 (by decide) (by decide), g3⟩
      refine SW.iload_n (q := 15) (i := 2) dX8_about_14 rfl rfl rfl ?_
      refine SW.tableK (q := 90) (k := 5) (off := 75) dX8_about_15 w5 (by decide) (by decide) rfl (by decide) ?_
      refine SW.aload_n (q := 91) (i := 0) dX8_about_90 rfl rfl rfl ?_
      refine SW.getR (q := 94) (i := 59) (j := 67) fX8_35 rfl rfl dX8_about_91 rfl ?_
      refine SW.iload_n (q := 95) (i := 1) dX8_about_94 rfl rfl rfl ?_
      refine SW.ialdN (q := 96) (k := q) rfl (rfl) (by omega) (by decide) dX8_about_95 rfl ?_
      refine SW.iretR rfl rfl dX8_about_96 ?_
      exact ⟨fun z => absurd ⟨q, hq, rfl⟩ z, fun q' h' e => by rw [nI_eq (by omega) (by omega)] at e; subst e; exact ⟨hQ, fun _ => by rw [am_, if_neg w0, if_neg w1, if_neg w2, if_neg w3, if_pos w5], fun z => absurd z w4⟩⟩
    by_cases w6 : what = 6
    · refine SW.aload_n (q := 1) (i := 0) dX8_about_0 rfl rfl rfl ?_
      refine SW.iload_n (q := 2) (i := 1) dX8_about_1 rfl rfl rfl ?_
      refine SW.cF (q := 5) (C_X8_isPlace hM) vX8_104 (by decide) rfl rfl rfl rfl (Nat.le_of_ble_eq_true rfl) dX8_about_2 rfl ?_
      refine SW.if_ne (q := 8) (tgt := 10) dX8_about_5 (by decide) rfl (fun _ => ?_) (fun c5 => absurd c5 ((W.mpr ⟨q, hq, rfl⟩)))
      refine SW.aload_n (q := 11) (i := 0) dX8_about_10 rfl rfl rfl ?_
      refine SW.cV (q := 14) (C_X8_lay hI) vX8_177 (by decide) rfl rfl rfl rfl (Nat.le_of_ble_eq_true rfl) dX8_about_11 rfl (fun u11 r11 => ?_)
      obtain ⟨g1, g2, g3⟩ := r11
      have hQ : mQ_ n a b c sea g br wn σ u11 := ⟨fm_fr g1 (by decide), me_fr g1 g2 (by decide) (by decide), g3⟩
      refine SW.iload_n (q := 15) (i := 2) dX8_about_14 rfl rfl rfl ?_
      refine SW.tableK (q := 97) (k := 6) (off := 82) dX8_about_15 w6 (by decide) (by decide) rfl (by decide) ?_
      refine SW.aload_n (q := 98) (i := 0) dX8_about_97 rfl rfl rfl ?_
      refine SW.iload_n (q := 99) (i := 1) dX8_about_98 rfl rfl rfl ?_
      refine SW.cF (q := 102) (C_X8_worth (p := q) g3.1.1 rfl hq) vX8_143 (by decide) rfl rfl rfl rfl (Nat.le_of_ble_eq_true rfl) dX8_about_99 rfl ?_
      refine SW.iretR rfl rfl dX8_about_102 ?_
      exact ⟨fun z => absurd ⟨q, hq, rfl⟩ z, fun q' h' e => by rw [nI_eq (by omega) (by omega)] at e; subst e; exact ⟨hQ, fun _ => by rw [am_, if_neg w0, if_neg w1, if_neg w2, if_neg w3, if_neg w5, if_pos w6], fun z => absurd z w4⟩⟩
    refine SW.aload_n (q := 1) (i := 0) dX8_about_0 rfl rfl rfl ?_
    refine SW.iload_n (q := 2) (i := 1) dX8_about_1 rfl rfl rfl ?_
    refine SW.cF (q := 5) (C_X8_isPlace hM) vX8_104 (by decide) rfl rfl rfl rfl (Nat.le_of_ble_eq_true rfl) dX8_about_2 rfl ?_
    refine SW.if_ne (q := 8) (tgt := 10) dX8_about_5 (by decide) rfl (fun _ => ?_) (fun c5 => absurd c5 ((W.mpr ⟨q, hq, rfl⟩)))
    refine SW.aload_n (q := 11) (i := 0) dX8_about_10 rfl rfl rfl ?_
    refine SW.cV (q := 14) (C_X8_lay hI) vX8_177 (by decide) rfl rfl rfl rfl (Nat.le_of_ble_eq_true rfl) dX8_about_11 rfl (fun u11 r11 => ?_)
    obtain ⟨g1, g2, g3⟩ := r11
    have hQ : mQ_ n a b c sea g br wn σ u11 := ⟨fm_fr g1 (by decide), me_fr g1 g2 (by decide) (by decide), g3⟩
    refine SW.iload_n (q := 15) (i := 2) dX8_about_14 rfl rfl rfl ?_
    refine SW.tableOut (q := 103) dX8_about_15 ((sw_out 0 6 (by decide) (by decide) (fun k h1 h2 => by rcases (show k = 0 ∨ k = 1 ∨ k = 2 ∨ k = 3 ∨ k = 4 ∨ k = 5 ∨ k = 6 by omega) with rfl | rfl | rfl | rfl | rfl | rfl | rfl <;> assumption))) (by decide) ?_
    refine SW.bipush (q := 105) (v := (-2)) dX8_about_103 (by decide) rfl ?_
    refine SW.iretR rfl rfl dX8_about_105 ?_
    exact ⟨fun z => absurd ⟨q, hq, rfl⟩ z, fun q' h' e => by rw [nI_eq (by omega) (by omega)] at e; subst e; exact ⟨hQ, fun _ => by rw [am_, if_neg w0, if_neg w1, if_neg w2, if_neg w3, if_neg w5, if_neg w6], fun z => absurd z w4⟩⟩
  · refine SW.aload_n (q := 1) (i := 0) dX8_about_0 rfl rfl rfl ?_
    refine SW.iload_n (q := 2) (i := 1) dX8_about_1 rfl rfl rfl ?_
    refine SW.cF (q := 5) (C_X8_isPlace hM) vX8_104 (by decide) rfl rfl rfl rfl (Nat.le_of_ble_eq_true rfl) dX8_about_2 rfl ?_
    refine SW.if_ne (q := 8) (tgt := 10) dX8_about_5 (by decide) rfl (fun c5 => absurd ((Classical.byContradiction fun z => hp (W.mp z))) c5) (fun _ => ?_)
    refine SW.iconst (q := 9) (v := (-1)) dX8_about_8 (by decide) rfl ?_
    refine SW.iretR rfl rfl dX8_about_9 ?_
    exact ⟨fun _ => ⟨rfl, rfl⟩, fun q h e => absurd ⟨q, h, e⟩ hp⟩
theorem C_X8_many (hI : mI_ n a b c sea g br wn σ) :
    sw_Mi X 5 mX8_many [.ref (sw_ad X 59), .int what] σ (fun v u => (¬ bc_ok what → v = -2 ∧ u = σ) ∧ (bc_ok what → mQ_ n a b c sea g br wn σ u ∧ v = nI (lk_n (fun q => ¬ sg_ (u 70 q) (q ∈ ct_L n g wn 64 70 69 u) (u 74 q) &&& what = 0) (n * n)))) := by
  have n24 := hI.1.1.2.1
  have h576 := gr_576 n24
  refine sw_ME.ofF (by decide +kernel) rfl (Nat.le_of_ble_eq_true rfl) rfl ?_
  have loop : ∀ (τ : sw_Sg), mQ_ n a b c sea g br wn σ τ → bc_ok what → ∀ (k p : Nat), p + k = n * n → SW X 5 mX8_many sw_E0 (sw_Ri (fun v u => (¬ bc_ok what → v = -2 ∧ u = σ) ∧ (bc_ok what → mQ_ n a b c sea g br wn σ u ∧ v = nI (lk_n (fun q => ¬ sg_ (u 70 q) (q ∈ ct_L n g wn 64 70 69 u) (u 74 q) &&& what = 0) (n * n))))) 44 [.ref (sw_ad X 59), .int what, .int (nI (lk_n (fun q => ¬ sg_ (τ 70 q) (q ∈ ct_L n g wn 64 70 69 τ) (τ 74 q) &&& what = 0) p)), .int (nI p)] [] τ := by
    intro τ hQ hb k
    have en : τ 59 1 = nI n := hQ.2.2.1.1.2.2
    induction k with
    | zero =>
      intro p hp
      obtain rfl : p = n * n := by omega
      refine SW.iload_n (q := 45) (i := 3) dX8_many_44 rfl rfl rfl ?_
      refine SW.aload_n (q := 46) (i := 0) dX8_many_45 rfl rfl rfl ?_
      refine SW.getI (q := 49) (i := 59) fX8_7 rfl rfl dX8_many_46 rfl ?_
      refine SW.aload_n (q := 50) (i := 0) dX8_many_49 rfl rfl rfl ?_
      refine SW.getI (q := 53) (i := 59) fX8_7 rfl rfl dX8_many_50 rfl ?_
      refine SW.imul (q := 54) dX8_many_53 rfl ?_
      refine SW.icmp_ge (q := 57) (tgt := 81) dX8_many_54 (by decide) rfl (fun _ => ?_) (fun c54 => absurd ((by rw [en, pk_mul]; exact Int32.le_refl _)) c54)
      refine SW.iload_n (q := 82) (i := 2) dX8_many_81 rfl rfl rfl ?_
      refine SW.iretR rfl rfl dX8_many_82 ?_
      exact ⟨fun z => absurd hb z, fun _ => ⟨hQ, rfl⟩⟩
    | succ k ih =>
      intro p hp
      have nx := ih (p + 1) (by omega)
      by_cases hs : sg_ (τ 70 p) (p ∈ ct_L n g wn 64 70 69 τ) (τ 74 p) &&& what = 0
      · rw [lk_n_n (fun z => z hs)] at nx
        refine SW.iload_n (q := 45) (i := 3) dX8_many_44 rfl rfl rfl ?_
        refine SW.aload_n (q := 46) (i := 0) dX8_many_45 rfl rfl rfl ?_
        refine SW.getI (q := 49) (i := 59) fX8_7 rfl rfl dX8_many_46 rfl ?_
        refine SW.aload_n (q := 50) (i := 0) dX8_many_49 rfl rfl rfl ?_
        refine SW.getI (q := 53) (i := 59) fX8_7 rfl rfl dX8_many_50 rfl ?_
        refine SW.imul (q := 54) dX8_many_53 rfl ?_
        refine SW.icmp_ge (q := 57) (tgt := 81) dX8_many_54 (by decide) rfl (fun c54 => absurd c54 ((by rw [en, pk_mul]; exact nI_ge (by omega) (by omega)))) (fun _ => ?_)
        refine SW.iload_n (q := 58) (i := 2) dX8_many_57 rfl rfl rfl ?_
        refine SW.aload_n (q := 59) (i := 0) dX8_many_58 rfl rfl rfl ?_
        refine SW.iload_n (q := 60) (i := 3) dX8_many_59 rfl rfl rfl ?_
        refine SW.cF (q := 63) (mL_all (p := p) hQ.2.2 (by omega)) vX8_183 (by decide) rfl rfl rfl rfl (Nat.le_of_ble_eq_true rfl) dX8_many_60 rfl ?_
        refine SW.iload_n (q := 64) (i := 1) dX8_many_63 rfl rfl rfl ?_
        refine SW.iand (q := 65) dX8_many_64 rfl ?_
        refine SW.if_eq (q := 68) (tgt := 72) dX8_many_65 (by decide) rfl (fun _ => ?_) (fun c65 => absurd (hs) c65)
        refine SW.iconst (q := 73) (v := 0) dX8_many_72 (by decide) rfl ?_
        refine SW.iadd (q := 74) dX8_many_73 rfl ?_
        refine SW.istore_n (q := 75) (i := 2) dX8_many_74 rfl (by decide) rfl ?_
        refine SW.iinc (q := 78) (v := _ + 1) dX8_many_75 rfl rfl (by decide) rfl ?_
        refine SW.goto (q := 44) dX8_many_78 (by decide) ?_
        exact SW.eq (by rw [nI_1, Int32.add_zero]; rfl) rfl rfl nx
      · rw [lk_n_y (P := fun q => ¬ sg_ (τ 70 q) (q ∈ ct_L n g wn 64 70 69 τ) (τ 74 q) &&& what = 0) hs] at nx
        refine SW.iload_n (q := 45) (i := 3) dX8_many_44 rfl rfl rfl ?_
        refine SW.aload_n (q := 46) (i := 0) dX8_many_45 rfl rfl rfl ?_
        refine SW.getI (q := 49) (i := 59) fX8_7 rfl rfl dX8_many_46 rfl ?_
        refine SW.aload_n (q := 50) (i := 0) dX8_many_49 rfl rfl rfl ?_
        refine SW.getI (q := 53) (i := 59) fX8_7 rfl rfl dX8_many_50 rfl ?_
        refine SW.imul (q := 54) dX8_many_53 rfl ?_
        refine SW.icmp_ge (q := 57) (tgt := 81) dX8_many_54 (by decide) rfl (fun c54 => absurd c54 ((by rw [en, pk_mul]; exact nI_ge (by omega) (by omega)))) (fun _ => ?_)
        refine SW.iload_n (q := 58) (i := 2) dX8_many_57 rfl rfl rfl ?_
        refine SW.aload_n (q := 59) (i := 0) dX8_many_58 rfl rfl rfl ?_
        refine SW.iload_n (q := 60) (i := 3) dX8_many_59 rfl rfl rfl ?_
        refine SW.cF (q := 63) (mL_all (p := p) hQ.2.2 (by omega)) vX8_183 (by decide) rfl rfl rfl rfl (Nat.le_of_ble_eq_true rfl) dX8_many_60 rfl ?_
        refine SW.iload_n (q := 64) (i := 1) dX8_many_63 rfl rfl rfl ?_
        refine SW.iand (q := 65) dX8_many_64 rfl ?_
        refine SW.if_eq (q := 68) (tgt := 72) dX8_many_65 (by decide) rfl (fun c65 => absurd c65 (hs)) (fun _ => ?_)
        refine SW.iconst (q := 69) (v := 1) dX8_many_68 (by decide) rfl ?_
        refine SW.goto (q := 73) dX8_many_69 (by decide) ?_
        refine SW.iadd (q := 74) dX8_many_73 rfl ?_
        refine SW.istore_n (q := 75) (i := 2) dX8_many_74 rfl (by decide) rfl ?_
        refine SW.iinc (q := 78) (v := _ + 1) dX8_many_75 rfl rfl (by decide) rfl ?_
        refine SW.goto (q := 44) dX8_many_78 (by decide) ?_
        exact SW.eq (by rw [nI_1, nI_1]; rfl) rfl rfl nx
  have J : bc_ok what → ∀ A B, SW X 5 mX8_many sw_E0 (sw_Ri (fun v u => (¬ bc_ok what → v = -2 ∧ u = σ) ∧ (bc_ok what → mQ_ n a b c sea g br wn σ u ∧ v = nI (lk_n (fun q => ¬ sg_ (u 70 q) (q ∈ ct_L n g wn 64 70 69 u) (u 74 q) &&& what = 0) (n * n))))) 36 [.ref (sw_ad X 59), .int what, A, B] [] σ := by
    intro hb A B
    refine SW.aload_n (q := 37) (i := 0) dX8_many_36 rfl rfl rfl ?_
    refine SW.cV (q := 40) (C_X8_lay hI) vX8_177 (by decide) rfl rfl rfl rfl (Nat.le_of_ble_eq_true rfl) dX8_many_37 rfl (fun u37 r37 => ?_)
    obtain ⟨g1, g2, g3⟩ := r37
    refine SW.iconst (q := 41) (v := 0) dX8_many_40 (by decide) rfl ?_
    refine SW.istore_n (q := 42) (i := 2) dX8_many_41 rfl (by decide) rfl ?_
    refine SW.iconst (q := 43) (v := 0) dX8_many_42 (by decide) rfl ?_
    refine SW.istore_n (q := 44) (i := 3) dX8_many_43 rfl (by decide) rfl ?_
    exact loop u37 ⟨fm_fr g1 (by decide), me_fr g1 g2 (by decide) (by decide), g3⟩ hb (n * n) 0 (by omega)

  by_cases w0 : what = 1
  · refine SW.iload_n (q := 1) (i := 1) dX8_many_0 rfl rfl rfl ?_
    refine SW.iconst (q := 2) (v := 1) dX8_many_1 (by decide) rfl ?_
    refine SW.icmp_eq (q := 5) (tgt := 36) dX8_many_2 (by decide) rfl (fun _ => ?_) (fun c2 => absurd (w0) c2)
    exact J (by unfold bc_ok; simp [w0]) _ _
  by_cases w1 : what = 2
  · refine SW.iload_n (q := 1) (i := 1) dX8_many_0 rfl rfl rfl ?_
    refine SW.iconst (q := 2) (v := 1) dX8_many_1 (by decide) rfl ?_
    refine SW.icmp_eq (q := 5) (tgt := 36) dX8_many_2 (by decide) rfl (fun c2 => absurd c2 (w0)) (fun _ => ?_)
    refine SW.iload_n (q := 6) (i := 1) dX8_many_5 rfl rfl rfl ?_
    refine SW.iconst (q := 7) (v := 2) dX8_many_6 (by decide) rfl ?_
    refine SW.icmp_eq (q := 10) (tgt := 36) dX8_many_7 (by decide) rfl (fun _ => ?_) (fun c7 => absurd (w1) c7)
    exact J (by unfold bc_ok; simp [w1]) _ _
  by_cases w2 : what = 4
  · refine SW.iload_n (q := 1) (i := 1) dX8_many_0 rfl rfl rfl ?_
    refine SW.iconst (q := 2) (v := 1) dX8_many_1 (by decide) rfl ?_
    refine SW.icmp_eq (q := 5) (tgt := 36) dX8_many_2 (by decide) rfl (fun c2 => absurd c2 (w0)) (fun _ => ?_)
    refine SW.iload_n (q := 6) (i := 1) dX8_many_5 rfl rfl rfl ?_
    refine SW.iconst (q := 7) (v := 2) dX8_many_6 (by decide) rfl ?_
    refine SW.icmp_eq (q := 10) (tgt := 36) dX8_many_7 (by decide) rfl (fun c7 => absurd c7 (w1)) (fun _ => ?_)
    refine SW.iload_n (q := 11) (i := 1) dX8_many_10 rfl rfl rfl ?_
    refine SW.iconst (q := 12) (v := 4) dX8_many_11 (by decide) rfl ?_
    refine SW.icmp_eq (q := 15) (tgt := 36) dX8_many_12 (by decide) rfl (fun _ => ?_) (fun c12 => absurd (w2) c12)
    exact J (by unfold bc_ok; simp [w2]) _ _
  by_cases w3 : what = 8
  · refine SW.iload_n (q := 1) (i := 1) dX8_many_0 rfl rfl rfl ?_
    refine SW.iconst (q := 2) (v := 1) dX8_many_1 (by decide) rfl ?_
    refine SW.icmp_eq (q := 5) (tgt := 36) dX8_many_2 (by decide) rfl (fun c2 => absurd c2 (w0)) (fun _ => ?_)
    refine SW.iload_n (q := 6) (i := 1) dX8_many_5 rfl rfl rfl ?_
    refine SW.iconst (q := 7) (v := 2) dX8_many_6 (by decide) rfl ?_
    refine SW.icmp_eq (q := 10) (tgt := 36) dX8_many_7 (by decide) rfl (fun c7 => absurd c7 (w1)) (fun _ => ?_)
    refine SW.iload_n (q := 11) (i := 1) dX8_many_10 rfl rfl rfl ?_
    refine SW.iconst (q := 12) (v := 4) dX8_many_11 (by decide) rfl ?_
    refine SW.icmp_eq (q := 15) (tgt := 36) dX8_many_12 (by decide) rfl (fun c12 => absurd c12 (w2)) (fun _ => ?_)
    refine SW.iload_n (q := 16) (i := 1) dX8_many_15 rfl rfl rfl ?_
    refine SW.bipush (q := 18) (v := 8) dX8_many_16 (by decide) rfl ?_
    refine SW.icmp_eq (q := 21) (tgt := 36) dX8_many_18 (by decide) rfl (fun _ => ?_) (fun c18 => absurd (w3) c18)
    exact J (by unfold bc_ok; simp [w3]) _ _
  by_cases w4 : what = 16
  · refine SW.iload_n (q := 1) (i := 1) dX8_many_0 rfl rfl rfl ?_
    refine SW.iconst (q := 2) (v := 1) dX8_many_1 (by decide) rfl ?_
    refine SW.icmp_eq (q := 5) (tgt := 36) dX8_many_2 (by decide) rfl (fun c2 => absurd c2 (w0)) (fun _ => ?_)
    refine SW.iload_n (q := 6) (i := 1) dX8_many_5 rfl rfl rfl ?_
    refine SW.iconst (q := 7) (v := 2) dX8_many_6 (by decide) rfl ?_
    refine SW.icmp_eq (q := 10) (tgt := 36) dX8_many_7 (by decide) rfl (fun c7 => absurd c7 (w1)) (fun _ => ?_)
    refine SW.iload_n (q := 11) (i := 1) dX8_many_10 rfl rfl rfl ?_
    refine SW.iconst (q := 12) (v := 4) dX8_many_11 (by decide) rfl ?_
    refine SW.icmp_eq (q := 15) (tgt := 36) dX8_many_12 (by decide) rfl (fun c12 => absurd c12 (w2)) (fun _ => ?_)
    refine SW.iload_n (q := 16) (i := 1) dX8_many_15 rfl rfl rfl ?_
    refine SW.bipush (q := 18) (v := 8) dX8_many_16 (by decide) rfl ?_
    refine SW.icmp_eq (q := 21) (tgt := 36) dX8_many_18 (by decide) rfl (fun c18 => absurd c18 (w3)) (fun _ => ?_)
    refine SW.iload_n (q := 22) (i := 1) dX8_many_21 rfl rfl rfl ?_
    refine SW.bipush (q := 24) (v := 16) dX8_many_22 (by decide) rfl ?_
    refine SW.icmp_eq (q := 27) (tgt := 36) dX8_many_24 (by decide) rfl (fun _ => ?_) (fun c24 => absurd (w4) c24)
    exact J (by unfold bc_ok; simp [w4]) _ _
  by_cases w5 : what = 32
  · refine SW.iload_n (q := 1) (i := 1) dX8_many_0 rfl rfl rfl ?_
    refine SW.iconst (q := 2) (v := 1) dX8_many_1 (by decide) rfl ?_
    refine SW.icmp_eq (q := 5) (tgt := 36) dX8_many_2 (by decide) rfl (fun c2 => absurd c2 (w0)) (fun _ => ?_)
    refine SW.iload_n (q := 6) (i := 1) dX8_many_5 rfl rfl rfl ?_
    refine SW.iconst (q := 7) (v := 2) dX8_many_6 (by decide) rfl ?_
    refine SW.icmp_eq (q := 10) (tgt := 36) dX8_many_7 (by decide) rfl (fun c7 => absurd c7 (w1)) (fun _ => ?_)
    refine SW.iload_n (q := 11) (i := 1) dX8_many_10 rfl rfl rfl ?_
    refine SW.iconst (q := 12) (v := 4) dX8_many_11 (by decide) rfl ?_
    refine SW.icmp_eq (q := 15) (tgt := 36) dX8_many_12 (by decide) rfl (fun c12 => absurd c12 (w2)) (fun _ => ?_)
    refine SW.iload_n (q := 16) (i := 1) dX8_many_15 rfl rfl rfl ?_
    refine SW.bipush (q := 18) (v := 8) dX8_many_16 (by decide) rfl ?_
    refine SW.icmp_eq (q := 21) (tgt := 36) dX8_many_18 (by decide) rfl (fun c18 => absurd c18 (w3)) (fun _ => ?_)
    refine SW.iload_n (q := 22) (i := 1) dX8_many_21 rfl rfl rfl ?_
    refine SW.bipush (q := 24) (v := 16) dX8_many_22 (by decide) rfl ?_
    refine SW.icmp_eq (q := 27) (tgt := 36) dX8_many_24 (by decide) rfl (fun c24 => absurd c24 (w4)) (fun _ => ?_)
    refine SW.iload_n (q := 28) (i := 1) dX8_many_27 rfl rfl rfl ?_
    refine SW.bipush (q := 30) (v := 32) dX8_many_28 (by decide) rfl ?_
    refine SW.icmp_eq (q := 33) (tgt := 36) dX8_many_30 (by decide) rfl (fun _ => ?_) (fun c30 => absurd (w5) c30)
    exact J (by unfold bc_ok; simp [w5]) _ _
  refine SW.iload_n (q := 1) (i := 1) dX8_many_0 rfl rfl rfl ?_
  refine SW.iconst (q := 2) (v := 1) dX8_many_1 (by decide) rfl ?_
  refine SW.icmp_eq (q := 5) (tgt := 36) dX8_many_2 (by decide) rfl (fun c2 => absurd c2 (w0)) (fun _ => ?_)
  refine SW.iload_n (q := 6) (i := 1) dX8_many_5 rfl rfl rfl ?_
  refine SW.iconst (q := 7) (v := 2) dX8_many_6 (by decide) rfl ?_
  refine SW.icmp_eq (q := 10) (tgt := 36) dX8_many_7 (by decide) rfl (fun c7 => absurd c7 (w1)) (fun _ => ?_)
  refine SW.iload_n (q := 11) (i := 1) dX8_many_10 rfl rfl rfl ?_
  refine SW.iconst (q := 12) (v := 4) dX8_many_11 (by decide) rfl ?_
  refine SW.icmp_eq (q := 15) (tgt := 36) dX8_many_12 (by decide) rfl (fun c12 => absurd c12 (w2)) (fun _ => ?_)
  refine SW.iload_n (q := 16) (i := 1) dX8_many_15 rfl rfl rfl ?_
  refine SW.bipush (q := 18) (v := 8) dX8_many_16 (by decide) rfl ?_
  refine SW.icmp_eq (q := 21) (tgt := 36) dX8_many_18 (by decide) rfl (fun c18 => absurd c18 (w3)) (fun _ => ?_)
  refine SW.iload_n (q := 22) (i := 1) dX8_many_21 rfl rfl rfl ?_
  refine SW.bipush (q := 24) (v := 16) dX8_many_22 (by decide) rfl ?_
  refine SW.icmp_eq (q := 27) (tgt := 36) dX8_many_24 (by decide) rfl (fun c24 => absurd c24 (w4)) (fun _ => ?_)
  refine SW.iload_n (q := 28) (i := 1) dX8_many_27 rfl rfl rfl ?_
  refine SW.bipush (q := 30) (v := 32) dX8_many_28 (by decide) rfl ?_
  refine SW.icmp_eq (q := 33) (tgt := 36) dX8_many_30 (by decide) rfl (fun c30 => absurd c30 (w5)) (fun _ => ?_)
  refine SW.bipush (q := 35) (v := (-2)) dX8_many_33 (by decide) rfl ?_
  refine SW.iretR rfl rfl dX8_many_35 ?_
  exact ⟨fun _ => ⟨rfl, rfl⟩, fun z => absurd z (by unfold bc_ok; simp [w0, w1, w2, w3, w4, w5])⟩
end MMETH4
