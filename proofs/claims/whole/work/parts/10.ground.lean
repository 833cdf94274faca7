/-! the ground: corners, layers, alike in the class and in the reference -/
def gr_mix (m : Int32) : Int32 := (m ^^^ (m.toUInt32 >>> ((15 : Int32).toUInt32 &&& Int32.toUInt32 31)).toInt32) * 739982445
def gr_c0 (s l i j : Int32) : Int32 := s * 73856093 + l * 19349663 + i * 83492791 + j * 265443576
def gr_c (s l i j : Int32) : Nat := ((gr_mix (gr_mix (gr_c0 s l i j))).toUInt32 >>> ((16 : Int32).toUInt32 &&& Int32.toUInt32 31)).toInt32.toBitVec.toNat % 2 ^ 8
theorem gr_c_le {s l i j : Int32} : gr_c s l i j ≤ 255 := by
  have : gr_c s l i j < 2 ^ 8 := Nat.mod_lt _ (by decide)
  omega
def gr_lay (s l : Int32) (P a b : Nat) : Nat :=
  ((gr_c s l (nI (a / P)) (nI (b / P)) * (P - a % P) + gr_c s l (nI (a / P + 1)) (nI (b / P)) * (a % P)) * (P - b % P) + (gr_c s l (nI (a / P)) (nI (b / P + 1)) * (P - a % P) + gr_c s l (nI (a / P + 1)) (nI (b / P + 1)) * (a % P)) * (b % P)) / (P * P)
def gr_g (s : Int32) (a b : Nat) : Nat := (4 * gr_lay s 0 8 a b + 2 * gr_lay s 1 4 a b + gr_lay s 2 2 a b) / 7
theorem gr_bl {c d P u B : Nat} (hc : c ≤ B) (hd : d ≤ B) (hu : u ≤ P) : c * (P - u) + d * u ≤ B * P := by
  have h1 := Nat.mul_le_mul_right (P - u) hc
  have h2 := Nat.mul_le_mul_right u hd
  have h3 : B * (P - u) + B * u = B * P := by rw [← Nat.mul_add, Nat.sub_add_cancel hu]
  omega
theorem gr_num_le (s l : Int32) (P a b : Nat) (hP : 0 < P) : (gr_c s l (nI (a / P)) (nI (b / P)) * (P - a % P) + gr_c s l (nI (a / P + 1)) (nI (b / P)) * (a % P)) * (P - b % P) + (gr_c s l (nI (a / P)) (nI (b / P + 1)) * (P - a % P) + gr_c s l (nI (a / P + 1)) (nI (b / P + 1)) * (a % P)) * (b % P) ≤ 255 * P * P :=
  gr_bl (gr_bl gr_c_le gr_c_le (Nat.le_of_lt (Nat.mod_lt _ hP))) (gr_bl gr_c_le gr_c_le (Nat.le_of_lt (Nat.mod_lt _ hP))) (Nat.le_of_lt (Nat.mod_lt _ hP))
theorem gr_lay_le (s l : Int32) (P a b : Nat) (hP : 0 < P) : gr_lay s l P a b ≤ 255 := by
  unfold gr_lay
  refine Nat.div_le_of_le_mul (Nat.le_trans (gr_num_le s l P a b hP) ?_)
  rw [Nat.mul_assoc, Nat.mul_comm]
  exact Nat.le_refl _
theorem gr_g_le (s : Int32) (a b : Nat) : gr_g s a b ≤ 255 := by
  have h0 := gr_lay_le s 0 8 a b (by decide)
  have h1 := gr_lay_le s 1 4 a b (by decide)
  have h2 := gr_lay_le s 2 2 a b (by decide)
  unfold gr_g
  omega
section GROUND
variable {X : sw_X} {σ : sw_Sg} {l x y : Int32} {a b P : Nat}
theorem C_X5_cornerOf : sw_F X 0 mX5_cornerOf [.ref (sw_ad X 1), .int l, .int x, .int y] σ (nI (gr_c (σ 1 0) l x y)) σ := by
  refine sw_ME.ofF (by decide +kernel) rfl (Nat.le_of_ble_eq_true rfl) rfl ?_
  refine SW.aload_n (q := 1) (i := 0) dX5_cornerOf_0 rfl rfl rfl ?_
  refine SW.getI (q := 4) (i := 1) fX5_9 rfl rfl dX5_cornerOf_1 rfl ?_
  refine SW.ldc (q := 6) kX5_72 dX5_cornerOf_4 rfl ?_
  refine SW.imul (q := 7) dX5_cornerOf_6 rfl ?_
  refine SW.iload_n (q := 8) (i := 1) dX5_cornerOf_7 rfl rfl rfl ?_
  refine SW.ldc (q := 10) kX5_73 dX5_cornerOf_8 rfl ?_
  refine SW.imul (q := 11) dX5_cornerOf_10 rfl ?_
  refine SW.iadd (q := 12) dX5_cornerOf_11 rfl ?_
  refine SW.iload_n (q := 13) (i := 2) dX5_cornerOf_12 rfl rfl rfl ?_
  refine SW.ldc (q := 15) kX5_74 dX5_cornerOf_13 rfl ?_
  refine SW.imul (q := 16) dX5_cornerOf_15 rfl ?_
  refine SW.iadd (q := 17) dX5_cornerOf_16 rfl ?_
  refine SW.iload_n (q := 18) (i := 3) dX5_cornerOf_17 rfl rfl rfl ?_
  refine SW.ldc (q := 20) kX5_75 dX5_cornerOf_18 rfl ?_
  refine SW.imul (q := 21) dX5_cornerOf_20 rfl ?_
  refine SW.iadd (q := 22) dX5_cornerOf_21 rfl ?_
  refine SW.istore (q := 24) (i := 4) dX5_cornerOf_22 (by decide) rfl ?_
  refine SW.iload (q := 26) (i := 4) dX5_cornerOf_24 rfl rfl ?_
  refine SW.iload (q := 28) (i := 4) dX5_cornerOf_26 rfl rfl ?_
  refine SW.bipush (q := 30) (v := 15) dX5_cornerOf_28 (by decide) rfl ?_
  refine SW.iushr (q := 31) dX5_cornerOf_30 rfl rfl ?_
  refine SW.ixor (q := 32) dX5_cornerOf_31 rfl ?_
  refine SW.ldc (q := 34) kX5_76 dX5_cornerOf_32 rfl ?_
  refine SW.imul (q := 35) dX5_cornerOf_34 rfl ?_
  refine SW.istore (q := 37) (i := 4) dX5_cornerOf_35 (by decide) rfl ?_
  refine SW.iload (q := 39) (i := 4) dX5_cornerOf_37 rfl rfl ?_
  refine SW.iload (q := 41) (i := 4) dX5_cornerOf_39 rfl rfl ?_
  refine SW.bipush (q := 43) (v := 15) dX5_cornerOf_41 (by decide) rfl ?_
  refine SW.iushr (q := 44) dX5_cornerOf_43 rfl rfl ?_
  refine SW.ixor (q := 45) dX5_cornerOf_44 rfl ?_
  refine SW.ldc (q := 47) kX5_76 dX5_cornerOf_45 rfl ?_
  refine SW.imul (q := 48) dX5_cornerOf_47 rfl ?_
  refine SW.istore (q := 50) (i := 4) dX5_cornerOf_48 (by decide) rfl ?_
  refine SW.iload (q := 52) (i := 4) dX5_cornerOf_50 rfl rfl ?_
  refine SW.bipush (q := 54) (v := 16) dX5_cornerOf_52 (by decide) rfl ?_
  refine SW.iushr (q := 55) dX5_cornerOf_54 rfl rfl ?_
  refine SW.sipush (q := 58) (v := 255) dX5_cornerOf_55 (by decide) rfl ?_
  refine SW.iand (q := 59) dX5_cornerOf_58 rfl ?_
  refine SW.iretR rfl rfl dX5_cornerOf_59 ?_
  exact ⟨pk_and _ 8 (by decide), rfl⟩
theorem C_X8_corner : sw_F X 0 mX8_corner [.ref (sw_ad X 59), .int l, .int x, .int y] σ (nI (gr_c (σ 59 0) l x y)) σ := by
  refine sw_ME.ofF (by decide +kernel) rfl (Nat.le_of_ble_eq_true rfl) rfl ?_
  have J : ∀ (m k : Int32), (k = 0 ∧ nI (((gr_mix (gr_mix m)).toUInt32 >>> ((16 : Int32).toUInt32 &&& Int32.toUInt32 31)).toInt32.toBitVec.toNat % 2 ^ 8) = nI (gr_c (σ 59 0) l x y) ∨ k = 1 ∧ nI (((gr_mix m).toUInt32 >>> ((16 : Int32).toUInt32 &&& Int32.toUInt32 31)).toInt32.toBitVec.toNat % 2 ^ 8) = nI (gr_c (σ 59 0) l x y) ∨ k = 2 ∧ nI ((m.toUInt32 >>> ((16 : Int32).toUInt32 &&& Int32.toUInt32 31)).toInt32.toBitVec.toNat % 2 ^ 8) = nI (gr_c (σ 59 0) l x y)) →
      SW X 0 mX8_corner sw_E0 (sw_Ri (fun r u => r = nI (gr_c (σ 59 0) l x y) ∧ u = σ)) 27 [.ref (sw_ad X 59), .int l, .int x, .int y, .int m, .int k] [] σ := by
    have J2 : ∀ (m k : Int32), (k = 2 ∧ nI ((m.toUInt32 >>> ((16 : Int32).toUInt32 &&& Int32.toUInt32 31)).toInt32.toBitVec.toNat % 2 ^ 8) = nI (gr_c (σ 59 0) l x y)) →
      SW X 0 mX8_corner sw_E0 (sw_Ri (fun r u => r = nI (gr_c (σ 59 0) l x y) ∧ u = σ)) 27 [.ref (sw_ad X 59), .int l, .int x, .int y, .int m, .int k] [] σ := by
      rintro m k ⟨rfl, h⟩
      refine SW.iload (q := 29) (i := 5) dX8_corner_27 rfl rfl ?_
      refine SW.iconst (q := 30) (v := 2) dX8_corner_29 (by decide) rfl ?_
      refine SW.icmp_ge (q := 33) (tgt := 52) dX8_corner_30 (by decide) rfl (fun _ => ?_) (fun c30 => absurd ((by decide)) c30)
      refine SW.iload (q := 54) (i := 4) dX8_corner_52 rfl rfl ?_
      refine SW.bipush (q := 56) (v := 16) dX8_corner_54 (by decide) rfl ?_
      refine SW.iushr (q := 57) dX8_corner_56 rfl rfl ?_
      refine SW.sipush (q := 60) (v := 255) dX8_corner_57 (by decide) rfl ?_
      refine SW.iand (q := 61) dX8_corner_60 rfl ?_
      refine SW.iretR rfl rfl dX8_corner_61 ?_
      exact ⟨(pk_and _ 8 (by decide)).trans h, rfl⟩
    have J1 : ∀ (m k : Int32), (k = 1 ∧ nI (((gr_mix m).toUInt32 >>> ((16 : Int32).toUInt32 &&& Int32.toUInt32 31)).toInt32.toBitVec.toNat % 2 ^ 8) = nI (gr_c (σ 59 0) l x y)) →
      SW X 0 mX8_corner sw_E0 (sw_Ri (fun r u => r = nI (gr_c (σ 59 0) l x y) ∧ u = σ)) 27 [.ref (sw_ad X 59), .int l, .int x, .int y, .int m, .int k] [] σ := by
      rintro m k ⟨rfl, h⟩
      refine SW.iload (q := 29) (i := 5) dX8_corner_27 rfl rfl ?_
      refine SW.iconst (q := 30) (v := 2) dX8_corner_29 (by decide) rfl ?_
      refine SW.icmp_ge (q := 33) (tgt := 52) dX8_corner_30 (by decide) rfl (fun c30 => absurd c30 ((by decide))) (fun _ => ?_)
      refine SW.iload (q := 35) (i := 4) dX8_corner_33 rfl rfl ?_
      refine SW.iload (q := 37) (i := 4) dX8_corner_35 rfl rfl ?_
      refine SW.bipush (q := 39) (v := 15) dX8_corner_37 (by decide) rfl ?_
      refine SW.iushr (q := 40) dX8_corner_39 rfl rfl ?_
      refine SW.ixor (q := 41) dX8_corner_40 rfl ?_
      refine SW.ldc (q := 43) kX8_84 dX8_corner_41 rfl ?_
      refine SW.imul (q := 44) dX8_corner_43 rfl ?_
      refine SW.istore (q := 46) (i := 4) dX8_corner_44 (by decide) rfl ?_
      refine SW.iinc (q := 49) (v := _ + 1) dX8_corner_46 rfl rfl (by decide) rfl ?_
      refine SW.goto (q := 27) dX8_corner_49 (by decide) ?_
      exact J2 _ _ ⟨by decide, h⟩
    rintro m k (⟨rfl, h⟩ | h | h)
    · refine SW.iload (q := 29) (i := 5) dX8_corner_27 rfl rfl ?_
      refine SW.iconst (q := 30) (v := 2) dX8_corner_29 (by decide) rfl ?_
      refine SW.icmp_ge (q := 33) (tgt := 52) dX8_corner_30 (by decide) rfl (fun c30 => absurd c30 ((by decide))) (fun _ => ?_)
      refine SW.iload (q := 35) (i := 4) dX8_corner_33 rfl rfl ?_
      refine SW.iload (q := 37) (i := 4) dX8_corner_35 rfl rfl ?_
      refine SW.bipush (q := 39) (v := 15) dX8_corner_37 (by decide) rfl ?_
      refine SW.iushr (q := 40) dX8_corner_39 rfl rfl ?_
      refine SW.ixor (q := 41) dX8_corner_40 rfl ?_
      refine SW.ldc (q := 43) kX8_84 dX8_corner_41 rfl ?_
      refine SW.imul (q := 44) dX8_corner_43 rfl ?_
      refine SW.istore (q := 46) (i := 4) dX8_corner_44 (by decide) rfl ?_
      refine SW.iinc (q := 49) (v := _ + 1) dX8_corner_46 rfl rfl (by decide) rfl ?_
      refine SW.goto (q := 27) dX8_corner_49 (by decide) ?_
      exact J1 _ _ ⟨by decide, h⟩
    · exact J1 m k h
    · exact J2 m k h
  refine SW.aload_n (q := 1) (i := 0) dX8_corner_0 rfl rfl rfl ?_
  refine SW.getI (q := 4) (i := 59) fX8_73 rfl rfl dX8_corner_1 rfl ?_
  refine SW.ldc (q := 6) kX8_80 dX8_corner_4 rfl ?_
  refine SW.imul (q := 7) dX8_corner_6 rfl ?_
  refine SW.iload_n (q := 8) (i := 1) dX8_corner_7 rfl rfl rfl ?_
  refine SW.ldc (q := 10) kX8_81 dX8_corner_8 rfl ?_
  refine SW.imul (q := 11) dX8_corner_10 rfl ?_
  refine SW.iadd (q := 12) dX8_corner_11 rfl ?_
  refine SW.iload_n (q := 13) (i := 2) dX8_corner_12 rfl rfl rfl ?_
  refine SW.ldc (q := 15) kX8_82 dX8_corner_13 rfl ?_
  refine SW.imul (q := 16) dX8_corner_15 rfl ?_
  refine SW.iadd (q := 17) dX8_corner_16 rfl ?_
  refine SW.iload_n (q := 18) (i := 3) dX8_corner_17 rfl rfl rfl ?_
  refine SW.ldc (q := 20) kX8_83 dX8_corner_18 rfl ?_
  refine SW.imul (q := 21) dX8_corner_20 rfl ?_
  refine SW.iadd (q := 22) dX8_corner_21 rfl ?_
  refine SW.istore (q := 24) (i := 4) dX8_corner_22 (by decide) rfl ?_
  refine SW.iconst (q := 25) (v := 0) dX8_corner_24 (by decide) rfl ?_
  refine SW.istore (q := 27) (i := 5) dX8_corner_25 (by decide) rfl ?_
  exact J _ _ (Or.inl ⟨rfl, rfl⟩)
theorem C_X5_layerOf0 {c : Nat} (hP : 0 < P ∧ P ≤ 8) (ha : a < 2 ^ 30) (hb : b < 2 ^ 30) (e1 : (3 : Int32) - l = nI c) (e2 : (1 : Int32) <<< (nI c &&& 31) = nI P) (e3 : ∀ a, a < 2 ^ 31 → nI a >>> (nI c &&& 31) = nI (a / P)) (e4 : ∀ a, a < 2 ^ 32 → nI a &&& (nI P - 1) = nI (a % P)) (e5 : ∀ a, a < 2 ^ 31 → nI a >>> (((2 : Int32) * nI c) &&& 31) = nI (a / (P * P))) :
    sw_F X 1 mX5_layerOf [.ref (sw_ad X 1), .int l, .int (nI a), .int (nI b)] σ (nI (gr_lay (σ 1 0) l P a b)) σ := by
  have eu : nI P - nI (a % P) = nI (P - a % P) := pk_sub (Nat.le_of_lt (Nat.mod_lt _ hP.1))
  have ev : nI P - nI (b % P) = nI (P - b % P) := pk_sub (Nat.le_of_lt (Nat.mod_lt _ hP.1))
  have hn := gr_num_le (σ 1 0) l P a b hP.1
  have hPP : 255 * P * P ≤ 255 * 8 * 8 := by
    have h1 : P * P ≤ 8 * 8 := Nat.mul_le_mul hP.2 hP.2
    rw [Nat.mul_assoc]; omega
  refine sw_ME.ofF (by decide +kernel) rfl (Nat.le_of_ble_eq_true rfl) rfl ?_
  refine SW.iconst (q := 1) (v := 3) dX5_layerOf_0 (by decide) rfl ?_
  refine SW.iload_n (q := 2) (i := 1) dX5_layerOf_1 rfl rfl rfl ?_
  refine SW.isub (q := 3) dX5_layerOf_2 rfl ?_
  refine SW.istore (q := 5) (i := 4) dX5_layerOf_3 (by decide) rfl ?_
  refine SW.iconst (q := 6) (v := 1) dX5_layerOf_5 (by decide) rfl ?_
  refine SW.iload (q := 8) (i := 4) dX5_layerOf_6 rfl rfl ?_
  refine SW.ishl (q := 9) dX5_layerOf_8 rfl ?_
  refine SW.istore (q := 11) (i := 5) dX5_layerOf_9 (by decide) rfl ?_
  refine SW.iload_n (q := 12) (i := 2) dX5_layerOf_11 rfl rfl rfl ?_
  refine SW.iload (q := 14) (i := 4) dX5_layerOf_12 rfl rfl ?_
  refine SW.ishr (q := 15) dX5_layerOf_14 rfl ?_
  refine SW.istore (q := 17) (i := 6) dX5_layerOf_15 (by decide) rfl ?_
  refine SW.iload_n (q := 18) (i := 3) dX5_layerOf_17 rfl rfl rfl ?_
  refine SW.iload (q := 20) (i := 4) dX5_layerOf_18 rfl rfl ?_
  refine SW.ishr (q := 21) dX5_layerOf_20 rfl ?_
  refine SW.istore (q := 23) (i := 7) dX5_layerOf_21 (by decide) rfl ?_
  refine SW.iload_n (q := 24) (i := 2) dX5_layerOf_23 rfl rfl rfl ?_
  refine SW.iload (q := 26) (i := 5) dX5_layerOf_24 rfl rfl ?_
  refine SW.iconst (q := 27) (v := 1) dX5_layerOf_26 (by decide) rfl ?_
  refine SW.isub (q := 28) dX5_layerOf_27 rfl ?_
  refine SW.iand (q := 29) dX5_layerOf_28 rfl ?_
  refine SW.istore (q := 31) (i := 8) dX5_layerOf_29 (by decide) rfl ?_
  refine SW.iload_n (q := 32) (i := 3) dX5_layerOf_31 rfl rfl rfl ?_
  refine SW.iload (q := 34) (i := 5) dX5_layerOf_32 rfl rfl ?_
  refine SW.iconst (q := 35) (v := 1) dX5_layerOf_34 (by decide) rfl ?_
  refine SW.isub (q := 36) dX5_layerOf_35 rfl ?_
  refine SW.iand (q := 37) dX5_layerOf_36 rfl ?_
  refine SW.istore (q := 39) (i := 9) dX5_layerOf_37 (by decide) rfl ?_
  refine SW.aload_n (q := 40) (i := 0) dX5_layerOf_39 rfl rfl rfl ?_
  refine SW.iload_n (q := 41) (i := 1) dX5_layerOf_40 rfl rfl rfl ?_
  refine SW.iload (q := 43) (i := 6) dX5_layerOf_41 rfl rfl ?_
  refine SW.iload (q := 45) (i := 7) dX5_layerOf_43 rfl rfl ?_
  refine SW.cF (q := 48) (C_X5_cornerOf) vX5_69 (by decide) rfl rfl rfl rfl (Nat.le_of_ble_eq_true rfl) dX5_layerOf_45 rfl ?_
  refine SW.iload (q := 50) (i := 5) dX5_layerOf_48 rfl rfl ?_
  refine SW.iload (q := 52) (i := 8) dX5_layerOf_50 rfl rfl ?_
  refine SW.isub (q := 53) dX5_layerOf_52 rfl ?_
  refine SW.imul (q := 54) dX5_layerOf_53 rfl ?_
  refine SW.aload_n (q := 55) (i := 0) dX5_layerOf_54 rfl rfl rfl ?_
  refine SW.iload_n (q := 56) (i := 1) dX5_layerOf_55 rfl rfl rfl ?_
  refine SW.iload (q := 58) (i := 6) dX5_layerOf_56 rfl rfl ?_
  refine SW.iconst (q := 59) (v := 1) dX5_layerOf_58 (by decide) rfl ?_
  refine SW.iadd (q := 60) dX5_layerOf_59 rfl ?_
  refine SW.iload (q := 62) (i := 7) dX5_layerOf_60 rfl rfl ?_
  refine SW.cF (q := 65) (C_X5_cornerOf) vX5_69 (by decide) rfl rfl rfl rfl (Nat.le_of_ble_eq_true rfl) dX5_layerOf_62 rfl ?_
  refine SW.iload (q := 67) (i := 8) dX5_layerOf_65 rfl rfl ?_
  refine SW.imul (q := 68) dX5_layerOf_67 rfl ?_
  refine SW.iadd (q := 69) dX5_layerOf_68 rfl ?_
  refine SW.istore (q := 71) (i := 10) dX5_layerOf_69 (by decide) rfl ?_
  refine SW.aload_n (q := 72) (i := 0) dX5_layerOf_71 rfl rfl rfl ?_
  refine SW.iload_n (q := 73) (i := 1) dX5_layerOf_72 rfl rfl rfl ?_
  refine SW.iload (q := 75) (i := 6) dX5_layerOf_73 rfl rfl ?_
  refine SW.iload (q := 77) (i := 7) dX5_layerOf_75 rfl rfl ?_
  refine SW.iconst (q := 78) (v := 1) dX5_layerOf_77 (by decide) rfl ?_
  refine SW.iadd (q := 79) dX5_layerOf_78 rfl ?_
  refine SW.cF (q := 82) (C_X5_cornerOf) vX5_69 (by decide) rfl rfl rfl rfl (Nat.le_of_ble_eq_true rfl) dX5_layerOf_79 rfl ?_
  refine SW.iload (q := 84) (i := 5) dX5_layerOf_82 rfl rfl ?_
  refine SW.iload (q := 86) (i := 8) dX5_layerOf_84 rfl rfl ?_
  refine SW.isub (q := 87) dX5_layerOf_86 rfl ?_
  refine SW.imul (q := 88) dX5_layerOf_87 rfl ?_
  refine SW.aload_n (q := 89) (i := 0) dX5_layerOf_88 rfl rfl rfl ?_
  refine SW.iload_n (q := 90) (i := 1) dX5_layerOf_89 rfl rfl rfl ?_
  refine SW.iload (q := 92) (i := 6) dX5_layerOf_90 rfl rfl ?_
  refine SW.iconst (q := 93) (v := 1) dX5_layerOf_92 (by decide) rfl ?_
  refine SW.iadd (q := 94) dX5_layerOf_93 rfl ?_
  refine SW.iload (q := 96) (i := 7) dX5_layerOf_94 rfl rfl ?_
  refine SW.iconst (q := 97) (v := 1) dX5_layerOf_96 (by decide) rfl ?_
  refine SW.iadd (q := 98) dX5_layerOf_97 rfl ?_
  refine SW.cF (q := 101) (C_X5_cornerOf) vX5_69 (by decide) rfl rfl rfl rfl (Nat.le_of_ble_eq_true rfl) dX5_layerOf_98 rfl ?_
  refine SW.iload (q := 103) (i := 8) dX5_layerOf_101 rfl rfl ?_
  refine SW.imul (q := 104) dX5_layerOf_103 rfl ?_
  refine SW.iadd (q := 105) dX5_layerOf_104 rfl ?_
  refine SW.istore (q := 107) (i := 11) dX5_layerOf_105 (by decide) rfl ?_
  refine SW.iload (q := 109) (i := 10) dX5_layerOf_107 rfl rfl ?_
  refine SW.iload (q := 111) (i := 5) dX5_layerOf_109 rfl rfl ?_
  refine SW.iload (q := 113) (i := 9) dX5_layerOf_111 rfl rfl ?_
  refine SW.isub (q := 114) dX5_layerOf_113 rfl ?_
  refine SW.imul (q := 115) dX5_layerOf_114 rfl ?_
  refine SW.iload (q := 117) (i := 11) dX5_layerOf_115 rfl rfl ?_
  refine SW.iload (q := 119) (i := 9) dX5_layerOf_117 rfl rfl ?_
  refine SW.imul (q := 120) dX5_layerOf_119 rfl ?_
  refine SW.iadd (q := 121) dX5_layerOf_120 rfl ?_
  refine SW.iconst (q := 122) (v := 2) dX5_layerOf_121 (by decide) rfl ?_
  refine SW.iload (q := 124) (i := 4) dX5_layerOf_122 rfl rfl ?_
  refine SW.imul (q := 125) dX5_layerOf_124 rfl ?_
  refine SW.ishr (q := 126) dX5_layerOf_125 rfl ?_
  refine SW.iretR rfl rfl dX5_layerOf_126 ?_
  refine ⟨?_, rfl⟩
  simp only [e1, e2, e3 a (by omega), e3 b (by omega), e4 a (by omega), e4 b (by omega), nI_1, eu, ev, pk_mul, nI_add]
  exact e5 _ (by omega)
theorem C_X5_layerOf_0 (ha : a < 2 ^ 30) (hb : b < 2 ^ 30) : sw_F X 1 mX5_layerOf [.ref (sw_ad X 1), .int 0, .int (nI a), .int (nI b)] σ (nI (gr_lay (σ 1 0) 0 8 a b)) σ :=
  C_X5_layerOf0 (c := 3) (by decide) ha hb (by decide) (by decide) (fun a h => pk_shrN h _ 3 (by decide)) (fun a h => pk_andN h 3 (by decide)) (fun a h => pk_shrN h _ 6 (by decide))
theorem C_X5_layerOf_1 (ha : a < 2 ^ 30) (hb : b < 2 ^ 30) : sw_F X 1 mX5_layerOf [.ref (sw_ad X 1), .int 1, .int (nI a), .int (nI b)] σ (nI (gr_lay (σ 1 0) 1 4 a b)) σ :=
  C_X5_layerOf0 (c := 2) (by decide) ha hb (by decide) (by decide) (fun a h => pk_shrN h _ 2 (by decide)) (fun a h => pk_andN h 2 (by decide)) (fun a h => pk_shrN h _ 4 (by decide))
theorem C_X5_layerOf_2 (ha : a < 2 ^ 30) (hb : b < 2 ^ 30) : sw_F X 1 mX5_layerOf [.ref (sw_ad X 1), .int 2, .int (nI a), .int (nI b)] σ (nI (gr_lay (σ 1 0) 2 2 a b)) σ :=
  C_X5_layerOf0 (c := 1) (by decide) ha hb (by decide) (by decide) (fun a h => pk_shrN h _ 1 (by decide)) (fun a h => pk_andN h 1 (by decide)) (fun a h => pk_shrN h _ 2 (by decide))
theorem gr_sum {s : Int32} {a b : Nat} : ((4 : Int32) * nI (gr_lay s 0 8 a b) + (2 : Int32) * nI (gr_lay s 1 4 a b) + nI (gr_lay s 2 2 a b)) / (7 : Int32) = nI (gr_g s a b) := by
  have h0 := gr_lay_le s 0 8 a b (by decide)
  have h1 := gr_lay_le s 1 4 a b (by decide)
  have h2 := gr_lay_le s 2 2 a b (by decide)
  unfold gr_g
  generalize gr_lay s 0 8 a b = A at *
  generalize gr_lay s 1 4 a b = B at *
  generalize gr_lay s 2 2 a b = C at *
  rw [show (4 : Int32) = nI 4 from rfl, show (2 : Int32) = nI 2 from rfl, show (7 : Int32) = nI 7 from rfl, pk_mul, pk_mul, nI_add, nI_add, pk_div (by omega) (by decide) (by decide)]
theorem C_X5_groundOf (hx : x = nI a) (hy : y = nI b) (ha : a < 2 ^ 30) (hb : b < 2 ^ 30) : sw_F X 2 mX5_groundOf [.ref (sw_ad X 1), .int x, .int y] σ (nI (gr_g (σ 1 0) a b)) σ := by
  subst hx; subst hy
  refine sw_ME.ofF (by decide +kernel) rfl (Nat.le_of_ble_eq_true rfl) rfl ?_
  refine SW.iconst (q := 1) (v := 4) dX5_groundOf_0 (by decide) rfl ?_
  refine SW.aload_n (q := 2) (i := 0) dX5_groundOf_1 rfl rfl rfl ?_
  refine SW.iconst (q := 3) (v := 0) dX5_groundOf_2 (by decide) rfl ?_
  refine SW.iload_n (q := 4) (i := 1) dX5_groundOf_3 rfl rfl rfl ?_
  refine SW.iload_n (q := 5) (i := 2) dX5_groundOf_4 rfl rfl rfl ?_
  refine SW.cF (q := 8) (C_X5_layerOf_0 ha hb) vX5_65 (by decide) rfl rfl rfl rfl (Nat.le_of_ble_eq_true rfl) dX5_groundOf_5 rfl ?_
  refine SW.imul (q := 9) dX5_groundOf_8 rfl ?_
  refine SW.iconst (q := 10) (v := 2) dX5_groundOf_9 (by decide) rfl ?_
  refine SW.aload_n (q := 11) (i := 0) dX5_groundOf_10 rfl rfl rfl ?_
  refine SW.iconst (q := 12) (v := 1) dX5_groundOf_11 (by decide) rfl ?_
  refine SW.iload_n (q := 13) (i := 1) dX5_groundOf_12 rfl rfl rfl ?_
  refine SW.iload_n (q := 14) (i := 2) dX5_groundOf_13 rfl rfl rfl ?_
  refine SW.cF (q := 17) (C_X5_layerOf_1 ha hb) vX5_65 (by decide) rfl rfl rfl rfl (Nat.le_of_ble_eq_true rfl) dX5_groundOf_14 rfl ?_
  refine SW.imul (q := 18) dX5_groundOf_17 rfl ?_
  refine SW.iadd (q := 19) dX5_groundOf_18 rfl ?_
  refine SW.aload_n (q := 20) (i := 0) dX5_groundOf_19 rfl rfl rfl ?_
  refine SW.iconst (q := 21) (v := 2) dX5_groundOf_20 (by decide) rfl ?_
  refine SW.iload_n (q := 22) (i := 1) dX5_groundOf_21 rfl rfl rfl ?_
  refine SW.iload_n (q := 23) (i := 2) dX5_groundOf_22 rfl rfl rfl ?_
  refine SW.cF (q := 26) (C_X5_layerOf_2 ha hb) vX5_65 (by decide) rfl rfl rfl rfl (Nat.le_of_ble_eq_true rfl) dX5_groundOf_23 rfl ?_
  refine SW.iadd (q := 27) dX5_groundOf_26 rfl ?_
  refine SW.bipush (q := 29) (v := 7) dX5_groundOf_27 (by decide) rfl ?_
  refine SW.idiv (q := 30) dX5_groundOf_29 (by decide) rfl ?_
  refine SW.iretR rfl rfl dX5_groundOf_30 ?_
  exact ⟨gr_sum, rfl⟩
theorem C_X8_layer0 (hP : 0 < P ∧ P ≤ 8) (hl : l = 0 ∧ P = 8 ∨ l = 1 ∧ P = 4 ∨ l = 2 ∧ P = 2) (ha : a < 2 ^ 30) (hb : b < 2 ^ 30) :
    sw_F X 1 mX8_layer [.ref (sw_ad X 59), .int l, .int (nI a), .int (nI b)] σ (nI (gr_lay (σ 59 0) l P a b)) σ := by
  have eu : nI P - nI (a % P) = nI (P - a % P) := pk_sub (Nat.le_of_lt (Nat.mod_lt _ hP.1))
  have ev : nI P - nI (b % P) = nI (P - b % P) := pk_sub (Nat.le_of_lt (Nat.mod_lt _ hP.1))
  have ea := pk_div (a := a) (d := P) (by omega) hP.1 (by omega)
  have eb := pk_div (a := b) (d := P) (by omega) hP.1 (by omega)
  have ra := pk_rem (a := a) (d := P) (by omega) hP.1 (by omega)
  have rb := pk_rem (a := b) (d := P) (by omega) hP.1 (by omega)
  have hn := gr_num_le (σ 59 0) l P a b hP.1
  have hPP : 255 * P * P ≤ 255 * 8 * 8 := by
    have h1 : P * P ≤ 8 * 8 := Nat.mul_le_mul hP.2 hP.2
    rw [Nat.mul_assoc]; omega
  have h0 : ¬ nI P = 0 := nI_ne0 hP.1 (by omega)
  have hP2 : P * P < 2 ^ 31 := by
    have h1 : P * P ≤ 8 * 8 := Nat.mul_le_mul hP.2 hP.2
    omega
  refine sw_ME.ofF (by decide +kernel) rfl (Nat.le_of_ble_eq_true rfl) rfl ?_
  have J : SW X 1 mX8_layer sw_E0 (sw_Ri (fun r u => r = nI (gr_lay (σ 59 0) l P a b) ∧ u = σ)) 19 [.ref (sw_ad X 59), .int l, .int (nI a), .int (nI b), .null, .null, .null, .null, .null, .null, .null] [.int (nI P)] σ := by
    refine SW.istore (q := 21) (i := 4) dX8_layer_19 (by decide) rfl ?_
    refine SW.iload_n (q := 22) (i := 2) dX8_layer_21 rfl rfl rfl ?_
    refine SW.iload (q := 24) (i := 4) dX8_layer_22 rfl rfl ?_
    refine SW.idiv (q := 25) dX8_layer_24 h0 rfl ?_
    refine SW.istore (q := 27) (i := 5) dX8_layer_25 (by decide) rfl ?_
    refine SW.iload_n (q := 28) (i := 3) dX8_layer_27 rfl rfl rfl ?_
    refine SW.iload (q := 30) (i := 4) dX8_layer_28 rfl rfl ?_
    refine SW.idiv (q := 31) dX8_layer_30 h0 rfl ?_
    refine SW.istore (q := 33) (i := 6) dX8_layer_31 (by decide) rfl ?_
    refine SW.iload_n (q := 34) (i := 2) dX8_layer_33 rfl rfl rfl ?_
    refine SW.iload (q := 36) (i := 4) dX8_layer_34 rfl rfl ?_
    refine SW.irem (q := 37) dX8_layer_36 h0 rfl ?_
    refine SW.istore (q := 39) (i := 7) dX8_layer_37 (by decide) rfl ?_
    refine SW.iload_n (q := 40) (i := 3) dX8_layer_39 rfl rfl rfl ?_
    refine SW.iload (q := 42) (i := 4) dX8_layer_40 rfl rfl ?_
    refine SW.irem (q := 43) dX8_layer_42 h0 rfl ?_
    refine SW.istore (q := 45) (i := 8) dX8_layer_43 (by decide) rfl ?_
    refine SW.aload_n (q := 46) (i := 0) dX8_layer_45 rfl rfl rfl ?_
    refine SW.iload_n (q := 47) (i := 1) dX8_layer_46 rfl rfl rfl ?_
    refine SW.iload (q := 49) (i := 5) dX8_layer_47 rfl rfl ?_
    refine SW.iload (q := 51) (i := 6) dX8_layer_49 rfl rfl ?_
    refine SW.cF (q := 54) (C_X8_corner) vX8_85 (by decide) rfl rfl rfl rfl (Nat.le_of_ble_eq_true rfl) dX8_layer_51 rfl ?_
    refine SW.iload (q := 56) (i := 4) dX8_layer_54 rfl rfl ?_
    refine SW.iload (q := 58) (i := 7) dX8_layer_56 rfl rfl ?_
    refine SW.isub (q := 59) dX8_layer_58 rfl ?_
    refine SW.imul (q := 60) dX8_layer_59 rfl ?_
    refine SW.aload_n (q := 61) (i := 0) dX8_layer_60 rfl rfl rfl ?_
    refine SW.iload_n (q := 62) (i := 1) dX8_layer_61 rfl rfl rfl ?_
    refine SW.iload (q := 64) (i := 5) dX8_layer_62 rfl rfl ?_
    refine SW.iconst (q := 65) (v := 1) dX8_layer_64 (by decide) rfl ?_
    refine SW.iadd (q := 66) dX8_layer_65 rfl ?_
    refine SW.iload (q := 68) (i := 6) dX8_layer_66 rfl rfl ?_
    refine SW.cF (q := 71) (C_X8_corner) vX8_85 (by decide) rfl rfl rfl rfl (Nat.le_of_ble_eq_true rfl) dX8_layer_68 rfl ?_
    refine SW.iload (q := 73) (i := 7) dX8_layer_71 rfl rfl ?_
    refine SW.imul (q := 74) dX8_layer_73 rfl ?_
    refine SW.iadd (q := 75) dX8_layer_74 rfl ?_
    refine SW.istore (q := 77) (i := 9) dX8_layer_75 (by decide) rfl ?_
    refine SW.aload_n (q := 78) (i := 0) dX8_layer_77 rfl rfl rfl ?_
    refine SW.iload_n (q := 79) (i := 1) dX8_layer_78 rfl rfl rfl ?_
    refine SW.iload (q := 81) (i := 5) dX8_layer_79 rfl rfl ?_
    refine SW.iload (q := 83) (i := 6) dX8_layer_81 rfl rfl ?_
    refine SW.iconst (q := 84) (v := 1) dX8_layer_83 (by decide) rfl ?_
    refine SW.iadd (q := 85) dX8_layer_84 rfl ?_
    refine SW.cF (q := 88) (C_X8_corner) vX8_85 (by decide) rfl rfl rfl rfl (Nat.le_of_ble_eq_true rfl) dX8_layer_85 rfl ?_
    refine SW.iload (q := 90) (i := 4) dX8_layer_88 rfl rfl ?_
    refine SW.iload (q := 92) (i := 7) dX8_layer_90 rfl rfl ?_
    refine SW.isub (q := 93) dX8_layer_92 rfl ?_
    refine SW.imul (q := 94) dX8_layer_93 rfl ?_
    refine SW.aload_n (q := 95) (i := 0) dX8_layer_94 rfl rfl rfl ?_
    refine SW.iload_n (q := 96) (i := 1) dX8_layer_95 rfl rfl rfl ?_
    refine SW.iload (q := 98) (i := 5) dX8_layer_96 rfl rfl ?_
    refine SW.iconst (q := 99) (v := 1) dX8_layer_98 (by decide) rfl ?_
    refine SW.iadd (q := 100) dX8_layer_99 rfl ?_
    refine SW.iload (q := 102) (i := 6) dX8_layer_100 rfl rfl ?_
    refine SW.iconst (q := 103) (v := 1) dX8_layer_102 (by decide) rfl ?_
    refine SW.iadd (q := 104) dX8_layer_103 rfl ?_
    refine SW.cF (q := 107) (C_X8_corner) vX8_85 (by decide) rfl rfl rfl rfl (Nat.le_of_ble_eq_true rfl) dX8_layer_104 rfl ?_
    refine SW.iload (q := 109) (i := 7) dX8_layer_107 rfl rfl ?_
    refine SW.imul (q := 110) dX8_layer_109 rfl ?_
    refine SW.iadd (q := 111) dX8_layer_110 rfl ?_
    refine SW.istore (q := 113) (i := 10) dX8_layer_111 (by decide) rfl ?_
    refine SW.iload (q := 115) (i := 9) dX8_layer_113 rfl rfl ?_
    refine SW.iload (q := 117) (i := 4) dX8_layer_115 rfl rfl ?_
    refine SW.iload (q := 119) (i := 8) dX8_layer_117 rfl rfl ?_
    refine SW.isub (q := 120) dX8_layer_119 rfl ?_
    refine SW.imul (q := 121) dX8_layer_120 rfl ?_
    refine SW.iload (q := 123) (i := 10) dX8_layer_121 rfl rfl ?_
    refine SW.iload (q := 125) (i := 8) dX8_layer_123 rfl rfl ?_
    refine SW.imul (q := 126) dX8_layer_125 rfl ?_
    refine SW.iadd (q := 127) dX8_layer_126 rfl ?_
    refine SW.iload (q := 129) (i := 4) dX8_layer_127 rfl rfl ?_
    refine SW.iload (q := 131) (i := 4) dX8_layer_129 rfl rfl ?_
    refine SW.imul (q := 132) dX8_layer_131 rfl ?_
    refine SW.idiv (q := 133) dX8_layer_132 (by rw [pk_mul]; exact nI_ne0 (Nat.mul_pos hP.1 hP.1) hP2) rfl ?_
    refine SW.iretR rfl rfl dX8_layer_133 ?_
    refine ⟨?_, rfl⟩
    simp only [ra, rb]
    simp only [ea, eb, nI_1, eu, ev, pk_mul, nI_add]
    exact pk_div (by omega) (Nat.mul_pos hP.1 hP.1) hP2
  rcases hl with ⟨rfl, rfl⟩ | ⟨rfl, rfl⟩ | ⟨rfl, rfl⟩
  · refine SW.iload_n (q := 1) (i := 1) dX8_layer_0 rfl rfl rfl ?_
    refine SW.if_ne (q := 4) (tgt := 9) dX8_layer_1 (by decide) rfl (fun c1 => absurd (rfl) c1) (fun _ => ?_)
    refine SW.bipush (q := 6) (v := 8) dX8_layer_4 (by decide) rfl ?_
    refine SW.goto (q := 19) dX8_layer_6 (by decide) ?_
    exact J
  · refine SW.iload_n (q := 1) (i := 1) dX8_layer_0 rfl rfl rfl ?_
    refine SW.if_ne (q := 4) (tgt := 9) dX8_layer_1 (by decide) rfl (fun _ => ?_) (fun c1 => absurd c1 ((by decide)))
    refine SW.iload_n (q := 10) (i := 1) dX8_layer_9 rfl rfl rfl ?_
    refine SW.iconst (q := 11) (v := 1) dX8_layer_10 (by decide) rfl ?_
    refine SW.icmp_ne (q := 14) (tgt := 18) dX8_layer_11 (by decide) rfl (fun c11 => absurd (rfl) c11) (fun _ => ?_)
    refine SW.iconst (q := 15) (v := 4) dX8_layer_14 (by decide) rfl ?_
    refine SW.goto (q := 19) dX8_layer_15 (by decide) ?_
    exact J
  · refine SW.iload_n (q := 1) (i := 1) dX8_layer_0 rfl rfl rfl ?_
    refine SW.if_ne (q := 4) (tgt := 9) dX8_layer_1 (by decide) rfl (fun _ => ?_) (fun c1 => absurd c1 ((by decide)))
    refine SW.iload_n (q := 10) (i := 1) dX8_layer_9 rfl rfl rfl ?_
    refine SW.iconst (q := 11) (v := 1) dX8_layer_10 (by decide) rfl ?_
    refine SW.icmp_ne (q := 14) (tgt := 18) dX8_layer_11 (by decide) rfl (fun _ => ?_) (fun c11 => absurd c11 ((by decide)))
    refine SW.iconst (q := 19) (v := 2) dX8_layer_18 (by decide) rfl ?_
    exact J
theorem C_X8_groundAt (hx : x = nI a) (hy : y = nI b) (ha : a < 2 ^ 30) (hb : b < 2 ^ 30) : sw_F X 2 mX8_groundAt [.ref (sw_ad X 59), .int x, .int y] σ (nI (gr_g (σ 59 0) a b)) σ := by
  subst hx; subst hy
  refine sw_ME.ofF (by decide +kernel) rfl (Nat.le_of_ble_eq_true rfl) rfl ?_
  refine SW.iconst (q := 1) (v := 4) dX8_groundAt_0 (by decide) rfl ?_
  refine SW.aload_n (q := 2) (i := 0) dX8_groundAt_1 rfl rfl rfl ?_
  refine SW.iconst (q := 3) (v := 0) dX8_groundAt_2 (by decide) rfl ?_
  refine SW.iload_n (q := 4) (i := 1) dX8_groundAt_3 rfl rfl rfl ?_
  refine SW.iload_n (q := 5) (i := 2) dX8_groundAt_4 rfl rfl rfl ?_
  refine SW.cF (q := 8) (C_X8_layer0 (P := 8) (by decide) (by decide) ha hb) vX8_89 (by decide) rfl rfl rfl rfl (Nat.le_of_ble_eq_true rfl) dX8_groundAt_5 rfl ?_
  refine SW.imul (q := 9) dX8_groundAt_8 rfl ?_
  refine SW.iconst (q := 10) (v := 2) dX8_groundAt_9 (by decide) rfl ?_
  refine SW.aload_n (q := 11) (i := 0) dX8_groundAt_10 rfl rfl rfl ?_
  refine SW.iconst (q := 12) (v := 1) dX8_groundAt_11 (by decide) rfl ?_
  refine SW.iload_n (q := 13) (i := 1) dX8_groundAt_12 rfl rfl rfl ?_
  refine SW.iload_n (q := 14) (i := 2) dX8_groundAt_13 rfl rfl rfl ?_
  refine SW.cF (q := 17) (C_X8_layer0 (P := 4) (by decide) (by decide) ha hb) vX8_89 (by decide) rfl rfl rfl rfl (Nat.le_of_ble_eq_true rfl) dX8_groundAt_14 rfl ?_
  refine SW.imul (q := 18) dX8_groundAt_17 rfl ?_
  refine SW.iadd (q := 19) dX8_groundAt_18 rfl ?_
  refine SW.aload_n (q := 20) (i := 0) dX8_groundAt_19 rfl rfl rfl ?_
  refine SW.iconst (q := 21) (v := 2) dX8_groundAt_20 (by decide) rfl ?_
  refine SW.iload_n (q := 22) (i := 1) dX8_groundAt_21 rfl rfl rfl ?_
  refine SW.iload_n (q := 23) (i := 2) dX8_groundAt_22 rfl rfl rfl ?_
  refine SW.cF (q := 26) (C_X8_layer0 (P := 2) (by decide) (by decide) ha hb) vX8_89 (by decide) rfl rfl rfl rfl (Nat.le_of_ble_eq_true rfl) dX8_groundAt_23 rfl ?_
  refine SW.iadd (q := 27) dX8_groundAt_26 rfl ?_
  refine SW.bipush (q := 29) (v := 7) dX8_groundAt_27 (by decide) rfl ?_
  refine SW.idiv (q := 30) dX8_groundAt_29 (by decide) rfl ?_
  refine SW.iretR rfl rfl dX8_groundAt_30 ?_
  exact ⟨gr_sum, rfl⟩
end GROUND
