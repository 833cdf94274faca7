/-! the reference's own methods: the net, changes -/
def nz_ (m : Nat) (T : nj_T) (W : Nat) : Int32 := if W = 0 then nI (T.k + (if 0 < m then 1 else 0)) else if W = 1 then nI T.tot else if W = 2 then nI T.k else if W - 10 < 2 * T.k then (if (W - 10) % 2 = 0 then nI (T.f ((W - 10) / 2)) else nI (T.g ((W - 10) / 2))) else -6
section MNET3
variable {X : sw_X} {σ τ u : sw_Sg} {x y v w st what : Int32} {n a b c sea g br wn k s M p m : Nat} {L : List Nat} {h : Nat → Nat} {kd : Nat → Int32} {D : Nat → Nat → Option Nat} {pl : Nat → Nat} {T : nj_T}
theorem C_X8_changed (hI : mI_ n a b c sea g br wn σ) :
    sw_Mi X 1 mX8_changed [.ref (sw_ad X 59), .int x, .int what] σ (fun v u => u = σ ∧ ((¬ ∃ i, i < c ∧ x = nI i) → v = -1001) ∧ ∀ i, i < c → x = nI i → v = (if what = 0 then σ 61 i else if what = 1 then σ 62 i else if what = 2 then σ 63 i else -1002)) := by
  have ec := hI.1.2.2.1.1
  have c30 := hI.1.2.2.1.2.1
  have W := tn_wiN (x := x) (m := c) (by omega)
  refine sw_ME.ofF (by decide +kernel) rfl (Nat.le_of_ble_eq_true rfl) rfl ?_
  by_cases hw : ∃ i, i < c ∧ x = nI i
  · obtain ⟨i, ic, rfl⟩ := hw
    have inj : ∀ i', i' < c → nI i = nI i' → i' = i := fun p' h e => by rw [nI_eq (by omega) (by omega)] at e; exact e.symm
    by_cases w0 : what = 0
    · refine SW.iload_n (q := 1) (i := 1) dX8_changed_0 rfl rfl rfl ?_
      refine SW.iconst (q := 2) (v := 0) dX8_changed_1 (by decide) rfl ?_
      refine SW.aload_n (q := 3) (i := 0) dX8_changed_2 rfl rfl rfl ?_
      refine SW.getI (q := 6) (i := 59) fX8_108 rfl rfl dX8_changed_3 rfl ?_
      refine SW.iconst (q := 7) (v := 1) dX8_changed_6 (by decide) rfl ?_
      refine SW.isub (q := 8) dX8_changed_7 rfl ?_
      refine SW.sF (q := 11) (C_X8_in) vX8_69 (by decide) rfl rfl (Nat.le_of_ble_eq_true rfl) dX8_changed_8 rfl ?_
      refine SW.if_ne (q := 14) (tgt := 18) dX8_changed_11 (by decide) rfl (fun _ => ?_) (fun c11 => absurd c11 ((by rw [ec]; exact W.mpr ⟨i, ic, rfl⟩)))
      refine SW.iload_n (q := 19) (i := 2) dX8_changed_18 rfl rfl rfl ?_
      refine SW.if_ne (q := 22) (tgt := 31) dX8_changed_19 (by decide) rfl (fun c19 => absurd (w0) c19) (fun _ => ?_)
      refine SW.aload_n (q := 23) (i := 0) dX8_changed_22 rfl rfl rfl ?_
      refine SW.getR (q := 26) (i := 59) (j := 61) fX8_17 rfl rfl dX8_changed_23 rfl ?_
      refine SW.iload_n (q := 27) (i := 1) dX8_changed_26 rfl rfl rfl ?_
      refine SW.ialdN (q := 28) (k := i) rfl (rfl) (by omega) (by decide) dX8_changed_27 rfl ?_
      refine SW.goto (q := 62) dX8_changed_28 (by decide) ?_
      refine SW.iretR rfl rfl dX8_changed_62 ?_
      exact ⟨rfl, fun z => absurd ⟨i, ic, rfl⟩ z, fun i' h e => by obtain rfl := inj i' h e; rw [if_pos w0]⟩
    · by_cases w1 : what = 1
      · refine SW.iload_n (q := 1) (i := 1) dX8_changed_0 rfl rfl rfl ?_
        refine SW.iconst (q := 2) (v := 0) dX8_changed_1 (by decide) rfl ?_
        refine SW.aload_n (q := 3) (i := 0) dX8_changed_2 rfl rfl rfl ?_
        refine SW.getI (q := 6) (i := 59) fX8_108 rfl rfl dX8_changed_3 rfl ?_
        refine SW.iconst (q := 7) (v := 1) dX8_changed_6 (by decide) rfl ?_
        refine SW.isub (q := 8) dX8_changed_7 rfl ?_
        refine SW.sF (q := 11) (C_X8_in) vX8_69 (by decide) rfl rfl (Nat.le_of_ble_eq_true rfl) dX8_changed_8 rfl ?_
        refine SW.if_ne (q := 14) (tgt := 18) dX8_changed_11 (by decide) rfl (fun _ => ?_) (fun c11 => absurd c11 ((by rw [ec]; exact W.mpr ⟨i, ic, rfl⟩)))
        refine SW.iload_n (q := 19) (i := 2) dX8_changed_18 rfl rfl rfl ?_
        refine SW.if_ne (q := 22) (tgt := 31) dX8_changed_19 (by decide) rfl (fun _ => ?_) (fun c19 => absurd c19 (w0))
        refine SW.iload_n (q := 32) (i := 2) dX8_changed_31 rfl rfl rfl ?_
        refine SW.iconst (q := 33) (v := 1) dX8_changed_32 (by decide) rfl ?_
        refine SW.icmp_ne (q := 36) (tgt := 45) dX8_changed_33 (by decide) rfl (fun c33 => absurd (w1) c33) (fun _ => ?_)
        refine SW.aload_n (q := 37) (i := 0) dX8_changed_36 rfl rfl rfl ?_
        refine SW.getR (q := 40) (i := 59) (j := 62) fX8_20 rfl rfl dX8_changed_37 rfl ?_
        refine SW.iload_n (q := 41) (i := 1) dX8_changed_40 rfl rfl rfl ?_
        refine SW.ialdN (q := 42) (k := i) rfl (rfl) (by omega) (by decide) dX8_changed_41 rfl ?_
        refine SW.goto (q := 62) dX8_changed_42 (by decide) ?_
        refine SW.iretR rfl rfl dX8_changed_62 ?_
        exact ⟨rfl, fun z => absurd ⟨i, ic, rfl⟩ z, fun i' h e => by obtain rfl := inj i' h e; rw [if_neg w0, if_pos w1]⟩
      · by_cases w2 : what = 2
        · refine SW.iload_n (q := 1) (i := 1) dX8_changed_0 rfl rfl rfl ?_
          refine SW.iconst (q := 2) (v := 0) dX8_changed_1 (by decide) rfl ?_
          refine SW.aload_n (q := 3) (i := 0) dX8_changed_2 rfl rfl rfl ?_
          refine SW.getI (q := 6) (i := 59) fX8_108 rfl rfl dX8_changed_3 rfl ?_
          refine SW.iconst (q := 7) (v := 1) dX8_changed_6 (by decide) rfl ?_
          refine SW.isub (q := 8) dX8_changed_7 rfl ?_
          refine SW.sF (q := 11) (C_X8_in) vX8_69 (by decide) rfl rfl (Nat.le_of_ble_eq_true rfl) dX8_changed_8 rfl ?_
          refine SW.if_ne (q := 14) (tgt := 18) dX8_changed_11 (by decide) rfl (fun _ => ?_) (fun c11 => absurd c11 ((by rw [ec]; exact W.mpr ⟨i, ic, rfl⟩)))
          refine SW.iload_n (q := 19) (i := 2) dX8_changed_18 rfl rfl rfl ?_
          refine SW.if_ne (q := 22) (tgt := 31) dX8_changed_19 (by decide) rfl (fun _ => ?_) (fun c19 => absurd c19 (w0))
          refine SW.iload_n (q := 32) (i := 2) dX8_changed_31 rfl rfl rfl ?_
          refine SW.iconst (q := 33) (v := 1) dX8_changed_32 (by decide) rfl ?_
          refine SW.icmp_ne (q := 36) (tgt := 45) dX8_changed_33 (by decide) rfl (fun _ => ?_) (fun c33 => absurd c33 (w1))
          refine SW.iload_n (q := 46) (i := 2) dX8_changed_45 rfl rfl rfl ?_
          refine SW.iconst (q := 47) (v := 2) dX8_changed_46 (by decide) rfl ?_
          refine SW.icmp_ne (q := 50) (tgt := 59) dX8_changed_47 (by decide) rfl (fun c47 => absurd (w2) c47) (fun _ => ?_)
          refine SW.aload_n (q := 51) (i := 0) dX8_changed_50 rfl rfl rfl ?_
          refine SW.getR (q := 54) (i := 59) (j := 63) fX8_23 rfl rfl dX8_changed_51 rfl ?_
          refine SW.iload_n (q := 55) (i := 1) dX8_changed_54 rfl rfl rfl ?_
          refine SW.ialdN (q := 56) (k := i) rfl (rfl) (by omega) (by decide) dX8_changed_55 rfl ?_
          refine SW.goto (q := 62) dX8_changed_56 (by decide) ?_
          refine SW.iretR rfl rfl dX8_changed_62 ?_
          exact ⟨rfl, fun z => absurd ⟨i, ic, rfl⟩ z, fun i' h e => by obtain rfl := inj i' h e; rw [if_neg w0, if_neg w1, if_pos w2]⟩
        · refine SW.iload_n (q := 1) (i := 1) dX8_changed_0 rfl rfl rfl ?_
          refine SW.iconst (q := 2) (v := 0) dX8_changed_1 (by decide) rfl ?_
          refine SW.aload_n (q := 3) (i := 0) dX8_changed_2 rfl rfl rfl ?_
          refine SW.getI (q := 6) (i := 59) fX8_108 rfl rfl dX8_changed_3 rfl ?_
          refine SW.iconst (q := 7) (v := 1) dX8_changed_6 (by decide) rfl ?_
          refine SW.isub (q := 8) dX8_changed_7 rfl ?_
          refine SW.sF (q := 11) (C_X8_in) vX8_69 (by decide) rfl rfl (Nat.le_of_ble_eq_true rfl) dX8_changed_8 rfl ?_
          refine SW.if_ne (q := 14) (tgt := 18) dX8_changed_11 (by decide) rfl (fun _ => ?_) (fun c11 => absurd c11 ((by rw [ec]; exact W.mpr ⟨i, ic, rfl⟩)))
          refine SW.iload_n (q := 19) (i := 2) dX8_changed_18 rfl rfl rfl ?_
          refine SW.if_ne (q := 22) (tgt := 31) dX8_changed_19 (by decide) rfl (fun _ => ?_) (fun c19 => absurd c19 (w0))
          refine SW.iload_n (q := 32) (i := 2) dX8_changed_31 rfl rfl rfl ?_
          refine SW.iconst (q := 33) (v := 1) dX8_changed_32 (by decide) rfl ?_
          refine SW.icmp_ne (q := 36) (tgt := 45) dX8_changed_33 (by decide) rfl (fun _ => ?_) (fun c33 => absurd c33 (w1))
          refine SW.iload_n (q := 46) (i := 2) dX8_changed_45 rfl rfl rfl ?_
          refine SW.iconst (q := 47) (v := 2) dX8_changed_46 (by decide) rfl ?_
          refine SW.icmp_ne (q := 50) (tgt := 59) dX8_changed_47 (by decide) rfl (fun _ => ?_) (fun c47 => absurd c47 (w2))
          refine SW.sipush (q := 62) (v := (-1002)) dX8_changed_59 (by decide) rfl ?_
          refine SW.iretR rfl rfl dX8_changed_62 ?_
          exact ⟨rfl, fun z => absurd ⟨i, ic, rfl⟩ z, fun i' h e => by obtain rfl := inj i' h e; rw [if_neg w0, if_neg w1, if_neg w2]⟩
  · refine SW.iload_n (q := 1) (i := 1) dX8_changed_0 rfl rfl rfl ?_
    refine SW.iconst (q := 2) (v := 0) dX8_changed_1 (by decide) rfl ?_
    refine SW.aload_n (q := 3) (i := 0) dX8_changed_2 rfl rfl rfl ?_
    refine SW.getI (q := 6) (i := 59) fX8_108 rfl rfl dX8_changed_3 rfl ?_
    refine SW.iconst (q := 7) (v := 1) dX8_changed_6 (by decide) rfl ?_
    refine SW.isub (q := 8) dX8_changed_7 rfl ?_
    refine SW.sF (q := 11) (C_X8_in) vX8_69 (by decide) rfl rfl (Nat.le_of_ble_eq_true rfl) dX8_changed_8 rfl ?_
    refine SW.if_ne (q := 14) (tgt := 18) dX8_changed_11 (by decide) rfl (fun c11 => absurd ((by rw [ec]; exact Classical.byContradiction fun z => hw (W.mp z))) c11) (fun _ => ?_)
    refine SW.sipush (q := 17) (v := (-1001)) dX8_changed_14 (by decide) rfl ?_
    refine SW.iretR rfl rfl dX8_changed_17 ?_
    exact ⟨rfl, fun _ => rfl, fun i h e => absurd ⟨i, h, e⟩ hw⟩
theorem C_X8_net (hI : mI_ n a b c sea g br wn σ) :
    sw_Mi X 5 mX8_net [.ref (sw_ad X 59), .int what] σ (fun v u => mQ_ n a b c sea g br wn σ u ∧ ((what < 0 ∨ 2 < what ∧ what < 10) → v = -2) ∧ ∀ W, W < 2 ^ 31 → what = nI W → (W ≤ 2 ∨ 10 ≤ W) → ∃ h D T, (∀ p, p < n * n → u 64 p = nI (h p) ∧ h p ≤ 400) ∧ nk_N n h (u 70) br (ct_L n g wn 64 70 69 u).length (ct_p (ct_L n g wn 64 70 69 u)) D T ∧ v = nz_ (ct_L n g wn 64 70 69 u).length T W) := by
  refine sw_ME.ofF (by decide +kernel) rfl (Nat.le_of_ble_eq_true rfl) rfl ?_
  by_cases hneg : what < 0
  · refine SW.aload_n (q := 1) (i := 0) dX8_net_0 rfl rfl rfl ?_
    refine SW.cV (q := 4) (C_X8_lay hI) vX8_177 (by decide) rfl rfl rfl rfl (Nat.le_of_ble_eq_true rfl) dX8_net_1 rfl (fun u1 r1 => ?_)
    obtain ⟨g1, g2, g3⟩ := r1
    refine SW.iload_n (q := 5) (i := 1) dX8_net_4 rfl rfl rfl ?_
    refine SW.iconst (q := 6) (v := 0) dX8_net_5 (by decide) rfl ?_
    refine SW.iconst (q := 7) (v := 2) dX8_net_6 (by decide) rfl ?_
    refine SW.sF (q := 10) (C_X8_in) vX8_69 (by decide) rfl rfl (Nat.le_of_ble_eq_true rfl) dX8_net_7 rfl ?_
    refine SW.if_eq (q := 13) (tgt := 41) dX8_net_10 (by decide) rfl (fun _ => ?_) (fun c10 => absurd ((sw_wi_0 (fun z => absurd hneg (Int32.not_lt.mpr z.1)))) c10)
    refine SW.iload_n (q := 42) (i := 1) dX8_net_41 rfl rfl rfl ?_
    refine SW.bipush (q := 44) (v := 10) dX8_net_42 (by decide) rfl ?_
    refine SW.icmp_ge (q := 47) (tgt := 50) dX8_net_44 (by decide) rfl (fun c44 => absurd c44 ((Int32.not_le.mpr (Int32.lt_trans hneg (by decide))))) (fun _ => ?_)
    refine SW.bipush (q := 49) (v := (-2)) dX8_net_47 (by decide) rfl ?_
    refine SW.iretR rfl rfl dX8_net_49 ?_
    exact ⟨⟨fm_fr g1 (by decide), me_fr g1 g2 (by decide) (by decide), g3⟩, fun _ => rfl, fun W hW e _ => absurd hneg (by rw [e]; exact nI_pos hW)⟩
  · obtain ⟨W, rfl, hW⟩ : ∃ W, what = nI W ∧ W < 2 ^ 31 := by
      have h1 := Int32.toInt_lt what
      have h0 : 0 ≤ what.toInt := i_le.mp (Int32.not_lt.mp hneg)
      refine ⟨what.toInt.toNat, ?_, by omega⟩
      apply Int32.toInt_inj.mp
      rw [nI_toInt (by omega)]
      omega
    have inj : ∀ W', W' < 2 ^ 31 → nI W = nI W' → W' = W := fun p' h e => by rw [nI_eq (by omega) (by omega)] at e; exact e.symm
    by_cases k2 : W ≤ 2
    · have w012 : ¬ sw_wi (nI W) 0 2 = 0 := sw_wi_1 (nI_pos' hW) (nI_le (b := 2) k2 (by omega))
      have nlt : ¬ (nI W < 0 ∨ 2 < nI W ∧ nI W < 10) := fun z => z.elim hneg (fun y => absurd y.1 (Int32.not_lt.mpr (nI_le (b := 2) k2 (by omega))))
      refine SW.aload_n (q := 1) (i := 0) dX8_net_0 rfl rfl rfl ?_
      refine SW.cV (q := 4) (C_X8_lay hI) vX8_177 (by decide) rfl rfl rfl rfl (Nat.le_of_ble_eq_true rfl) dX8_net_1 rfl (fun u1 r1 => ?_)
      obtain ⟨g1, g2, g3⟩ := r1
      obtain ⟨hK, hl, hh, m1, m2, m3, D, T, m4, t1, t2, t3, t4, t5⟩ := id g3
      have fin : ∀ v, v = nz_ (ct_L n g wn 64 70 69 u1).length T W → mQ_ n a b c sea g br wn σ u1 ∧ ((nI W < 0 ∨ 2 < nI W ∧ nI W < 10) → v = -2) ∧ ∀ W', W' < 2 ^ 31 → nI W = nI W' → (W' ≤ 2 ∨ 10 ≤ W') → ∃ h D T, (∀ p, p < n * n → u1 64 p = nI (h p) ∧ h p ≤ 400) ∧ nk_N n h (u1 70) br (ct_L n g wn 64 70 69 u1).length (ct_p (ct_L n g wn 64 70 69 u1)) D T ∧ v = nz_ (ct_L n g wn 64 70 69 u1).length T W' := fun v hv =>
        ⟨⟨fm_fr g1 (by decide), me_fr g1 g2 (by decide) (by decide), g3⟩, fun z => absurd z nlt, fun W' h' e _ => by obtain rfl := inj W' h' e; exact ⟨hh, D, T, fun p hp => ⟨(m1 p hp).2.2, (m1 p hp).2.1⟩, m4, hv⟩⟩
      refine SW.iload_n (q := 5) (i := 1) dX8_net_4 rfl rfl rfl ?_
      refine SW.iconst (q := 6) (v := 0) dX8_net_5 (by decide) rfl ?_
      refine SW.iconst (q := 7) (v := 2) dX8_net_6 (by decide) rfl ?_
      refine SW.sF (q := 10) (C_X8_in) vX8_69 (by decide) rfl rfl (Nat.le_of_ble_eq_true rfl) dX8_net_7 rfl ?_
      refine SW.if_eq (q := 13) (tgt := 41) dX8_net_10 (by decide) rfl (fun c10 => absurd c10 (w012)) (fun _ => ?_)
      refine SW.iload_n (q := 14) (i := 1) dX8_net_13 rfl rfl rfl ?_
      refine SW.if_ne (q := 17) (tgt := 24) dX8_net_14 (by decide) rfl (fun c14 => ?_) (fun c14 => ?_)
      · refine SW.iload_n (q := 25) (i := 1) dX8_net_24 rfl rfl rfl ?_
        refine SW.iconst (q := 26) (v := 1) dX8_net_25 (by decide) rfl ?_
        refine SW.icmp_ne (q := 29) (tgt := 36) dX8_net_26 (by decide) rfl (fun c26 => ?_) (fun c26 => ?_)
        · refine SW.aload_n (q := 37) (i := 0) dX8_net_36 rfl rfl rfl ?_
          refine SW.getI (q := 40) (i := 59) fX8_158 rfl rfl dX8_net_37 rfl ?_
          refine SW.iretR rfl rfl dX8_net_40 ?_
          refine fin _ ?_
          have hc : W = 0 ∨ W = 1 ∨ W = 2 := by omega
          rcases hc with rfl | rfl | rfl
          · first
            | exact t1
            | exact absurd rfl c14
          · first
            | exact t2
            | exact absurd c14 (by decide)
            | exact absurd rfl c26
          · first
            | exact t3
            | exact absurd c14 (by decide)
            | exact absurd c26 (by decide)
        · refine SW.aload_n (q := 30) (i := 0) dX8_net_29 rfl rfl rfl ?_
          refine SW.getI (q := 33) (i := 59) fX8_155 rfl rfl dX8_net_30 rfl ?_
          refine SW.goto (q := 40) dX8_net_33 (by decide) ?_
          refine SW.iretR rfl rfl dX8_net_40 ?_
          refine fin _ ?_
          have hc : W = 0 ∨ W = 1 ∨ W = 2 := by omega
          rcases hc with rfl | rfl | rfl
          · first
            | exact t1
            | exact absurd rfl c14
          · first
            | exact t2
            | exact absurd c14 (by decide)
            | exact absurd rfl c26
          · first
            | exact t3
            | exact absurd c14 (by decide)
            | exact absurd c26 (by decide)
      · refine SW.aload_n (q := 18) (i := 0) dX8_net_17 rfl rfl rfl ?_
        refine SW.getI (q := 21) (i := 59) fX8_152 rfl rfl dX8_net_18 rfl ?_
        refine SW.goto (q := 40) dX8_net_21 (by decide) ?_
        refine SW.iretR rfl rfl dX8_net_40 ?_
        refine fin _ ?_
        have hc : W = 0 ∨ W = 1 ∨ W = 2 := by omega
        rcases hc with rfl | rfl | rfl
        · first
          | exact t1
          | exact absurd rfl c14
        · first
          | exact t2
          | exact absurd c14 (by decide)
          | exact absurd rfl c26
        · first
          | exact t3
          | exact absurd c14 (by decide)
          | exact absurd c26 (by decide)
    · by_cases k10 : W < 10
      · refine SW.aload_n (q := 1) (i := 0) dX8_net_0 rfl rfl rfl ?_
        refine SW.cV (q := 4) (C_X8_lay hI) vX8_177 (by decide) rfl rfl rfl rfl (Nat.le_of_ble_eq_true rfl) dX8_net_1 rfl (fun u1 r1 => ?_)
        obtain ⟨g1, g2, g3⟩ := r1
        refine SW.iload_n (q := 5) (i := 1) dX8_net_4 rfl rfl rfl ?_
        refine SW.iconst (q := 6) (v := 0) dX8_net_5 (by decide) rfl ?_
        refine SW.iconst (q := 7) (v := 2) dX8_net_6 (by decide) rfl ?_
        refine SW.sF (q := 10) (C_X8_in) vX8_69 (by decide) rfl rfl (Nat.le_of_ble_eq_true rfl) dX8_net_7 rfl ?_
        refine SW.if_eq (q := 13) (tgt := 41) dX8_net_10 (by decide) rfl (fun _ => ?_) (fun c10 => absurd ((sw_wi_0 (fun z => absurd z.2 (nI_ge (a := 2) (by omega) (by omega))))) c10)
        refine SW.iload_n (q := 42) (i := 1) dX8_net_41 rfl rfl rfl ?_
        refine SW.bipush (q := 44) (v := 10) dX8_net_42 (by decide) rfl ?_
        refine SW.icmp_ge (q := 47) (tgt := 50) dX8_net_44 (by decide) rfl (fun c44 => absurd c44 ((nI_ge (b := 10) k10 (by omega)))) (fun _ => ?_)
        refine SW.bipush (q := 49) (v := (-2)) dX8_net_47 (by decide) rfl ?_
        refine SW.iretR rfl rfl dX8_net_49 ?_
        exact ⟨⟨fm_fr g1 (by decide), me_fr g1 g2 (by decide) (by decide), g3⟩, fun _ => rfl, fun W' h' e z => by obtain rfl := inj W' h' e; omega⟩
      · have nlt : ¬ (nI W < 0 ∨ 2 < nI W ∧ nI W < 10) := fun z => z.elim hneg (fun y => absurd y.2 (Int32.not_lt.mpr (nI_le (a := 10) (by omega) (by omega))))
        have e10 : nI W - 10 = nI (W - 10) := pk_sub (a := W) (b := 10) (by omega)
        have ed : nI (W - 10) / 2 = nI ((W - 10) / 2) := pk_div (d := 2) (by omega) (by omega) (by omega)
        have er : nI W - nI W / 2 * 2 = nI (W % 2) := pk_rem (d := 2) (by omega) (by omega) (by omega)
        refine SW.aload_n (q := 1) (i := 0) dX8_net_0 rfl rfl rfl ?_
        refine SW.cV (q := 4) (C_X8_lay hI) vX8_177 (by decide) rfl rfl rfl rfl (Nat.le_of_ble_eq_true rfl) dX8_net_1 rfl (fun u1 r1 => ?_)
        obtain ⟨g1, g2, g3⟩ := r1
        obtain ⟨hK, hl, hh, m1, m2, m3, D, T, m4, t1, t2, t3, t4, t5⟩ := id g3
        have fin : ∀ v, v = nz_ (ct_L n g wn 64 70 69 u1).length T W → mQ_ n a b c sea g br wn σ u1 ∧ ((nI W < 0 ∨ 2 < nI W ∧ nI W < 10) → v = -2) ∧ ∀ W', W' < 2 ^ 31 → nI W = nI W' → (W' ≤ 2 ∨ 10 ≤ W') → ∃ h D T, (∀ p, p < n * n → u1 64 p = nI (h p) ∧ h p ≤ 400) ∧ nk_N n h (u1 70) br (ct_L n g wn 64 70 69 u1).length (ct_p (ct_L n g wn 64 70 69 u1)) D T ∧ v = nz_ (ct_L n g wn 64 70 69 u1).length T W' := fun v hv =>
          ⟨⟨fm_fr g1 (by decide), me_fr g1 g2 (by decide) (by decide), g3⟩, fun z => absurd z nlt, fun W' h' e _ => by obtain rfl := inj W' h' e; exact ⟨hh, D, T, fun p hp => ⟨(m1 p hp).2.2, (m1 p hp).2.1⟩, m4, hv⟩⟩
        have Tk := (nj_R_I _ T m4.2).k
        have L6 := (mL_L g3).2.1
        refine SW.iload_n (q := 5) (i := 1) dX8_net_4 rfl rfl rfl ?_
        refine SW.iconst (q := 6) (v := 0) dX8_net_5 (by decide) rfl ?_
        refine SW.iconst (q := 7) (v := 2) dX8_net_6 (by decide) rfl ?_
        refine SW.sF (q := 10) (C_X8_in) vX8_69 (by decide) rfl rfl (Nat.le_of_ble_eq_true rfl) dX8_net_7 rfl ?_
        refine SW.if_eq (q := 13) (tgt := 41) dX8_net_10 (by decide) rfl (fun _ => ?_) (fun c10 => absurd ((sw_wi_0 (fun z => absurd z.2 (nI_ge (a := 2) (by omega) (by omega))))) c10)
        refine SW.iload_n (q := 42) (i := 1) dX8_net_41 rfl rfl rfl ?_
        refine SW.bipush (q := 44) (v := 10) dX8_net_42 (by decide) rfl ?_
        refine SW.icmp_ge (q := 47) (tgt := 50) dX8_net_44 (by decide) rfl (fun _ => ?_) (fun c44 => absurd ((nI_le (a := 10) (by omega) (by omega))) c44)
        refine SW.iload_n (q := 51) (i := 1) dX8_net_50 rfl rfl rfl ?_
        refine SW.bipush (q := 53) (v := 10) dX8_net_51 (by decide) rfl ?_
        refine SW.isub (q := 54) dX8_net_53 rfl ?_
        refine SW.iconst (q := 55) (v := 2) dX8_net_54 (by decide) rfl ?_
        refine SW.idiv (q := 56) dX8_net_55 (by decide) rfl ?_
        refine SW.istore_n (q := 57) (i := 2) dX8_net_56 rfl (by decide) rfl ?_
        rw [e10, ed]
        refine SW.iload_n (q := 58) (i := 2) dX8_net_57 rfl rfl rfl ?_
        refine SW.aload_n (q := 59) (i := 0) dX8_net_58 rfl rfl rfl ?_
        refine SW.getI (q := 62) (i := 59) fX8_158 rfl rfl dX8_net_59 rfl ?_
        refine SW.icmp_lt (q := 65) (tgt := 70) dX8_net_62 (by decide) rfl (fun c62 => ?_) (fun c62 => ?_)
        · have c62y : (W - 10) / 2 < T.k := (nI_ltI (by omega) (by omega)).mp (by rw [← t3]; exact c62)
          refine SW.iload_n (q := 71) (i := 1) dX8_net_70 rfl rfl rfl ?_
          refine SW.iconst (q := 72) (v := 2) dX8_net_71 (by decide) rfl ?_
          refine SW.irem (q := 73) dX8_net_72 (by decide) rfl ?_
          rw [er]
          refine SW.if_ne (q := 76) (tgt := 85) dX8_net_73 (by decide) rfl (fun c73 => ?_) (fun c73 => ?_)
          · have c73o : ¬ W % 2 = 0 := fun z => c73 (by rw [z]; rfl)
            refine SW.aload_n (q := 86) (i := 0) dX8_net_85 rfl rfl rfl ?_
            refine SW.getR (q := 89) (i := 59) (j := 73) fX8_53 rfl rfl dX8_net_86 rfl ?_
            refine SW.iload_n (q := 90) (i := 2) dX8_net_89 rfl rfl rfl ?_
            refine SW.ialdN (q := 91) (k := (W - 10) / 2) rfl (rfl) (by omega) (by decide) dX8_net_90 rfl ?_
            refine SW.iretR rfl rfl dX8_net_91 ?_
            refine fin _ ?_
            unfold nz_
            rw [if_neg (by omega), if_neg (by omega), if_neg (by omega)]
            first
            | exact (if_neg (by omega)).symm
            | (rw [if_pos (by omega), if_pos (by omega)]; exact (t4 _ c62y).1)
            | (rw [if_pos (by omega), if_neg (by omega)]; exact (t4 _ c62y).2)
          · have c73e : W % 2 = 0 := Classical.byContradiction fun z => nI_ne0 (by omega) (by omega) c73
            refine SW.aload_n (q := 77) (i := 0) dX8_net_76 rfl rfl rfl ?_
            refine SW.getR (q := 80) (i := 59) (j := 72) fX8_50 rfl rfl dX8_net_77 rfl ?_
            refine SW.iload_n (q := 81) (i := 2) dX8_net_80 rfl rfl rfl ?_
            refine SW.ialdN (q := 82) (k := (W - 10) / 2) rfl (rfl) (by omega) (by decide) dX8_net_81 rfl ?_
            refine SW.goto (q := 91) dX8_net_82 (by decide) ?_
            refine SW.iretR rfl rfl dX8_net_91 ?_
            refine fin _ ?_
            unfold nz_
            rw [if_neg (by omega), if_neg (by omega), if_neg (by omega)]
            first
            | exact (if_neg (by omega)).symm
            | (rw [if_pos (by omega), if_pos (by omega)]; exact (t4 _ c62y).1)
            | (rw [if_pos (by omega), if_neg (by omega)]; exact (t4 _ c62y).2)
        · have c62n : ¬ (W - 10) / 2 < T.k := fun z => c62 (by rw [t3]; exact (nI_ltI (by omega) (by omega)).mpr z)
          refine SW.bipush (q := 67) (v := (-6)) dX8_net_65 (by decide) rfl ?_
          refine SW.goto (q := 91) dX8_net_67 (by decide) ?_
          refine SW.iretR rfl rfl dX8_net_91 ?_
          refine fin _ ?_
          unfold nz_
          rw [if_neg (by omega), if_neg (by omega), if_neg (by omega)]
          first
          | exact (if_neg (by omega)).symm
          | (rw [if_pos (by omega), if_pos (by omega)]; exact (t4 _ c62y).1)
          | (rw [if_pos (by omega), if_neg (by omega)]; exact (t4 _ c62y).2)
end MNET3
