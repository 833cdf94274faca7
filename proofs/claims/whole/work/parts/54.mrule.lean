/-! the reference's rule -/
def ru_ok (what y : Int32) : Prop := (what = 0 ∧ 0 ≤ y ∧ y ≤ 255) ∨ (what = 1 ∧ 2 ≤ y ∧ y ≤ 200) ∨ (what = 2 ∧ 1 ≤ y ∧ y ≤ 12) ∨ (what = 3 ∧ 0 ≤ y ∧ y ≤ 100)
section MRULE
variable {X : sw_X} {σ τ u : sw_Sg} {x y v w st what : Int32} {n a b c sea g br wn k s M p m : Nat}
theorem C_X8_rule (hI : mI_ n a b c sea g br wn σ) :
    sw_Mi X 1 mX8_rule [.ref (sw_ad X 59), .int what, .int y] σ (fun v u => (¬ ru_ok what y → v = -2 ∧ u = σ) ∧ (ru_ok what y → ∃ i : Nat, i < 4 ∧ what = nI i ∧ v = σ 60 i ∧ u = sw_up (sw_up σ 60 i y) 59 10 0)) := by
  refine sw_ME.ofF (by decide +kernel) rfl (Nat.le_of_ble_eq_true rfl) rfl ?_
  have Y : ∀ (i : Nat), i < 4 → what = nI i → ru_ok what y → ∀ A B, SW X 1 mX8_rule sw_E0 (sw_Ri (fun v u => (¬ ru_ok what y → v = -2 ∧ u = σ) ∧ (ru_ok what y → ∃ i : Nat, i < 4 ∧ what = nI i ∧ v = σ 60 i ∧ u = sw_up (sw_up σ 60 i y) 59 10 0))) 61 [.ref (sw_ad X 59), .int what, .int y, A, B] [] σ := by
    intro i i4 hi ok A B
    refine SW.iconst (q := 62) (v := 1) dX8_rule_61 (by decide) rfl ?_
    refine SW.goto (q := 66) dX8_rule_62 (by decide) ?_
    refine SW.istore_n (q := 67) (i := 3) dX8_rule_66 rfl (by decide) rfl ?_
    refine SW.iload_n (q := 68) (i := 3) dX8_rule_67 rfl rfl rfl ?_
    refine SW.if_ne (q := 71) (tgt := 74) dX8_rule_68 (by decide) rfl (fun _ => ?_) (fun c68 => absurd c68 ((by decide)))
    refine SW.aload_n (q := 75) (i := 0) dX8_rule_74 rfl rfl rfl ?_
    refine SW.getR (q := 78) (i := 59) (j := 60) fX8_13 rfl rfl dX8_rule_75 rfl ?_
    refine SW.iload_n (q := 79) (i := 1) dX8_rule_78 rfl rfl rfl ?_
    refine SW.ialdN (q := 80) (k := i) rfl (hi) (i4) (by decide) dX8_rule_79 rfl ?_
    refine SW.istore (q := 82) (i := 4) dX8_rule_80 (by decide) rfl ?_
    refine SW.aload_n (q := 83) (i := 0) dX8_rule_82 rfl rfl rfl ?_
    refine SW.getR (q := 86) (i := 59) (j := 60) fX8_13 rfl rfl dX8_rule_83 rfl ?_
    refine SW.iload_n (q := 87) (i := 1) dX8_rule_86 rfl rfl rfl ?_
    refine SW.iload_n (q := 88) (i := 2) dX8_rule_87 rfl rfl rfl ?_
    refine SW.iastN (q := 89) (k := i) rfl (hi) (i4) (by decide) dX8_rule_88 rfl ?_
    refine SW.aload_n (q := 90) (i := 0) dX8_rule_89 rfl rfl rfl ?_
    refine SW.iconst (q := 91) (v := 0) dX8_rule_90 (by decide) rfl ?_
    refine SW.put (q := 94) (i := 59) pX8_76 rfl rfl rfl rfl dX8_rule_91 rfl ?_
    refine SW.iload (q := 96) (i := 4) dX8_rule_94 rfl rfl ?_
    refine SW.iretR rfl rfl dX8_rule_96 ?_
    exact ⟨fun z => absurd ok z, fun _ => ⟨i, i4, hi, rfl, rfl⟩⟩
  have N : ¬ ru_ok what y → ∀ A B, SW X 1 mX8_rule sw_E0 (sw_Ri (fun v u => (¬ ru_ok what y → v = -2 ∧ u = σ) ∧ (ru_ok what y → ∃ i : Nat, i < 4 ∧ what = nI i ∧ v = σ 60 i ∧ u = sw_up (sw_up σ 60 i y) 59 10 0))) 65 [.ref (sw_ad X 59), .int what, .int y, A, B] [] σ := by
    intro no A B
    refine SW.iconst (q := 66) (v := 0) dX8_rule_65 (by decide) rfl ?_
    refine SW.istore_n (q := 67) (i := 3) dX8_rule_66 rfl (by decide) rfl ?_
    refine SW.iload_n (q := 68) (i := 3) dX8_rule_67 rfl rfl rfl ?_
    refine SW.if_ne (q := 71) (tgt := 74) dX8_rule_68 (by decide) rfl (fun c68 => absurd (rfl) c68) (fun _ => ?_)
    refine SW.bipush (q := 73) (v := (-2)) dX8_rule_71 (by decide) rfl ?_
    refine SW.iretR rfl rfl dX8_rule_73 ?_
    exact ⟨fun _ => ⟨rfl, rfl⟩, fun z => absurd z no⟩
  refine SW.iload_n (q := 1) (i := 1) dX8_rule_0 rfl rfl rfl ?_
  refine SW.if_ne (q := 4) (tgt := 15) dX8_rule_1 (by decide) rfl (fun c1 => ?_) (fun c1 => ?_)
  · refine SW.iload_n (q := 16) (i := 1) dX8_rule_15 rfl rfl rfl ?_
    refine SW.iconst (q := 17) (v := 1) dX8_rule_16 (by decide) rfl ?_
    refine SW.icmp_ne (q := 20) (tgt := 31) dX8_rule_17 (by decide) rfl (fun c17 => ?_) (fun c17 => ?_)
    · refine SW.iload_n (q := 32) (i := 1) dX8_rule_31 rfl rfl rfl ?_
      refine SW.iconst (q := 33) (v := 2) dX8_rule_32 (by decide) rfl ?_
      refine SW.icmp_ne (q := 36) (tgt := 46) dX8_rule_33 (by decide) rfl (fun c33 => ?_) (fun c33 => ?_)
      · refine SW.iload_n (q := 47) (i := 1) dX8_rule_46 rfl rfl rfl ?_
        refine SW.iconst (q := 48) (v := 3) dX8_rule_47 (by decide) rfl ?_
        refine SW.icmp_ne (q := 51) (tgt := 65) dX8_rule_48 (by decide) rfl (fun c48 => ?_) (fun c48 => ?_)
        · refine N (fun ok => ?_) _ _
          rcases ok with ⟨w, z⟩ | ⟨w, z⟩ | ⟨w, z⟩ | ⟨w, z⟩
          all_goals subst w
          all_goals first
          | exact absurd c12 (sw_wi_1 z.1 z.2)
          | exact absurd c28 (sw_wi_1 z.1 z.2)
          | exact absurd c43 (sw_wi_1 z.1 z.2)
          | exact absurd c58 (sw_wi_1 z.1 z.2)
          | exact absurd rfl c1
          | exact absurd rfl c17
          | exact absurd rfl c33
          | exact absurd rfl c48
          | exact absurd c1 (by decide)
          | exact absurd c17 (by decide)
          | exact absurd c33 (by decide)
          | exact absurd c48 (by decide)
        · refine SW.iload_n (q := 52) (i := 2) dX8_rule_51 rfl rfl rfl ?_
          refine SW.iconst (q := 53) (v := 0) dX8_rule_52 (by decide) rfl ?_
          refine SW.bipush (q := 55) (v := 100) dX8_rule_53 (by decide) rfl ?_
          refine SW.sF (q := 58) (C_X8_in) vX8_69 (by decide) rfl rfl (Nat.le_of_ble_eq_true rfl) dX8_rule_55 rfl ?_
          refine SW.if_eq (q := 61) (tgt := 65) dX8_rule_58 (by decide) rfl (fun c58 => ?_) (fun c58 => ?_)
          · refine N (fun ok => ?_) _ _
            rcases ok with ⟨w, z⟩ | ⟨w, z⟩ | ⟨w, z⟩ | ⟨w, z⟩
            all_goals subst w
            all_goals first
            | exact absurd c12 (sw_wi_1 z.1 z.2)
            | exact absurd c28 (sw_wi_1 z.1 z.2)
            | exact absurd c43 (sw_wi_1 z.1 z.2)
            | exact absurd c58 (sw_wi_1 z.1 z.2)
            | exact absurd rfl c1
            | exact absurd rfl c17
            | exact absurd rfl c33
            | exact absurd rfl c48
            | exact absurd c1 (by decide)
            | exact absurd c17 (by decide)
            | exact absurd c33 (by decide)
            | exact absurd c48 (by decide)
          · first
            | exact Y 0 (by decide) c1 (Or.inl ⟨c1, Classical.byContradiction fun z => c12 (sw_wi_0 z)⟩) _ _
            | exact Y 1 (by decide) c17 (Or.inr (Or.inl ⟨c17, Classical.byContradiction fun z => c28 (sw_wi_0 z)⟩)) _ _
            | exact Y 2 (by decide) c33 (Or.inr (Or.inr (Or.inl ⟨c33, Classical.byContradiction fun z => c43 (sw_wi_0 z)⟩))) _ _
            | exact Y 3 (by decide) (Classical.byContradiction fun z => c48 z) (Or.inr (Or.inr (Or.inr ⟨Classical.byContradiction fun z => c48 z, Classical.byContradiction fun z => c58 (sw_wi_0 z)⟩))) _ _
            | exact Y 0 (by decide) (Classical.byContradiction fun z => c1 z) (Or.inl ⟨Classical.byContradiction fun z => c1 z, Classical.byContradiction fun z => c12 (sw_wi_0 z)⟩) _ _
            | exact Y 1 (by decide) (Classical.byContradiction fun z => c17 z) (Or.inr (Or.inl ⟨Classical.byContradiction fun z => c17 z, Classical.byContradiction fun z => c28 (sw_wi_0 z)⟩)) _ _
            | exact Y 2 (by decide) (Classical.byContradiction fun z => c33 z) (Or.inr (Or.inr (Or.inl ⟨Classical.byContradiction fun z => c33 z, Classical.byContradiction fun z => c43 (sw_wi_0 z)⟩))) _ _
            | exact Y 3 (by decide) c48 (Or.inr (Or.inr (Or.inr ⟨c48, Classical.byContradiction fun z => c58 (sw_wi_0 z)⟩))) _ _
      · refine SW.iload_n (q := 37) (i := 2) dX8_rule_36 rfl rfl rfl ?_
        refine SW.iconst (q := 38) (v := 1) dX8_rule_37 (by decide) rfl ?_
        refine SW.bipush (q := 40) (v := 12) dX8_rule_38 (by decide) rfl ?_
        refine SW.sF (q := 43) (C_X8_in) vX8_69 (by decide) rfl rfl (Nat.le_of_ble_eq_true rfl) dX8_rule_40 rfl ?_
        refine SW.if_ne (q := 46) (tgt := 61) dX8_rule_43 (by decide) rfl (fun c43 => ?_) (fun c43 => ?_)
        · first
          | exact Y 0 (by decide) c1 (Or.inl ⟨c1, Classical.byContradiction fun z => c12 (sw_wi_0 z)⟩) _ _
          | exact Y 1 (by decide) c17 (Or.inr (Or.inl ⟨c17, Classical.byContradiction fun z => c28 (sw_wi_0 z)⟩)) _ _
          | exact Y 2 (by decide) c33 (Or.inr (Or.inr (Or.inl ⟨c33, Classical.byContradiction fun z => c43 (sw_wi_0 z)⟩))) _ _
          | exact Y 3 (by decide) (Classical.byContradiction fun z => c48 z) (Or.inr (Or.inr (Or.inr ⟨Classical.byContradiction fun z => c48 z, Classical.byContradiction fun z => c58 (sw_wi_0 z)⟩))) _ _
          | exact Y 0 (by decide) (Classical.byContradiction fun z => c1 z) (Or.inl ⟨Classical.byContradiction fun z => c1 z, Classical.byContradiction fun z => c12 (sw_wi_0 z)⟩) _ _
          | exact Y 1 (by decide) (Classical.byContradiction fun z => c17 z) (Or.inr (Or.inl ⟨Classical.byContradiction fun z => c17 z, Classical.byContradiction fun z => c28 (sw_wi_0 z)⟩)) _ _
          | exact Y 2 (by decide) (Classical.byContradiction fun z => c33 z) (Or.inr (Or.inr (Or.inl ⟨Classical.byContradiction fun z => c33 z, Classical.byContradiction fun z => c43 (sw_wi_0 z)⟩))) _ _
          | exact Y 3 (by decide) c48 (Or.inr (Or.inr (Or.inr ⟨c48, Classical.byContradiction fun z => c58 (sw_wi_0 z)⟩))) _ _
        · refine SW.iload_n (q := 47) (i := 1) dX8_rule_46 rfl rfl rfl ?_
          refine SW.iconst (q := 48) (v := 3) dX8_rule_47 (by decide) rfl ?_
          refine SW.icmp_ne (q := 51) (tgt := 65) dX8_rule_48 (by decide) rfl (fun c48 => ?_) (fun c48 => ?_)
          · refine N (fun ok => ?_) _ _
            rcases ok with ⟨w, z⟩ | ⟨w, z⟩ | ⟨w, z⟩ | ⟨w, z⟩
            all_goals subst w
            all_goals first
            | exact absurd c12 (sw_wi_1 z.1 z.2)
            | exact absurd c28 (sw_wi_1 z.1 z.2)
            | exact absurd c43 (sw_wi_1 z.1 z.2)
            | exact absurd c58 (sw_wi_1 z.1 z.2)
            | exact absurd rfl c1
            | exact absurd rfl c17
            | exact absurd rfl c33
            | exact absurd rfl c48
            | exact absurd c1 (by decide)
            | exact absurd c17 (by decide)
            | exact absurd c33 (by decide)
            | exact absurd c48 (by decide)
          · refine SW.iload_n (q := 52) (i := 2) dX8_rule_51 rfl rfl rfl ?_
            refine SW.iconst (q := 53) (v := 0) dX8_rule_52 (by decide) rfl ?_
            refine SW.bipush (q := 55) (v := 100) dX8_rule_53 (by decide) rfl ?_
            refine SW.sF (q := 58) (C_X8_in) vX8_69 (by decide) rfl rfl (Nat.le_of_ble_eq_true rfl) dX8_rule_55 rfl ?_
            refine SW.if_eq (q := 61) (tgt := 65) dX8_rule_58 (by decide) rfl (fun c58 => ?_) (fun c58 => ?_)
            · refine N (fun ok => ?_) _ _
              rcases ok with ⟨w, z⟩ | ⟨w, z⟩ | ⟨w, z⟩ | ⟨w, z⟩
              all_goals subst w
              all_goals first
              | exact absurd c12 (sw_wi_1 z.1 z.2)
              | exact absurd c28 (sw_wi_1 z.1 z.2)
              | exact absurd c43 (sw_wi_1 z.1 z.2)
              | exact absurd c58 (sw_wi_1 z.1 z.2)
              | exact absurd rfl c1
              | exact absurd rfl c17
              | exact absurd rfl c33
              | exact absurd rfl c48
              | exact absurd c1 (by decide)
              | exact absurd c17 (by decide)
              | exact absurd c33 (by decide)
              | exact absurd c48 (by decide)
            · first
              | exact Y 0 (by decide) c1 (Or.inl ⟨c1, Classical.byContradiction fun z => c12 (sw_wi_0 z)⟩) _ _
              | exact Y 1 (by decide) c17 (Or.inr (Or.inl ⟨c17, Classical.byContradiction fun z => c28 (sw_wi_0 z)⟩)) _ _
              | exact Y 2 (by decide) c33 (Or.inr (Or.inr (Or.inl ⟨c33, Classical.byContradiction fun z => c43 (sw_wi_0 z)⟩))) _ _
              | exact Y 3 (by decide) (Classical.byContradiction fun z => c48 z) (Or.inr (Or.inr (Or.inr ⟨Classical.byContradiction fun z => c48 z, Classical.byContradiction fun z => c58 (sw_wi_0 z)⟩))) _ _
              | exact Y 0 (by decide) (Classical.byContradiction fun z => c1 z) (Or.inl ⟨Classical.byContradiction fun z => c1 z, Classical.byContradiction fun z => c12 (sw_wi_0 z)⟩) _ _
              | exact Y 1 (by decide) (Classical.byContradiction fun z => c17 z) (Or.inr (Or.inl ⟨Classical.byContradiction fun z => c17 z, Classical.byContradiction fun z => c28 (sw_wi_0 z)⟩)) _ _
              | exact Y 2 (by decide) (Classical.byContradiction fun z => c33 z) (Or.inr (Or.inr (Or.inl ⟨Classical.byContradiction fun z => c33 z, Classical.byContradiction fun z => c43 (sw_wi_0 z)⟩))) _ _
              | exact Y 3 (by decide) c48 (Or.inr (Or.inr (Or.inr ⟨c48, Classical.byContradiction fun z => c58 (sw_wi_0 z)⟩))) _ _
    · refine SW.iload_n (q := 21) (i := 2) dX8_rule_20 rfl rfl rfl ?_
      refine SW.iconst (q := 22) (v := 2) dX8_rule_21 (by decide) rfl ?_
      refine SW.sipush (q := 25) (v := 200) dX8_rule_22 (by decide) rfl ?_
      refine SW.sF (q := 28) (C_X8_in) vX8_69 (by decide) rfl rfl (Nat.le_of_ble_eq_true rfl) dX8_rule_25 rfl ?_
      refine SW.if_ne (q := 31) (tgt := 61) dX8_rule_28 (by decide) rfl (fun c28 => ?_) (fun c28 => ?_)
      · first
        | exact Y 0 (by decide) c1 (Or.inl ⟨c1, Classical.byContradiction fun z => c12 (sw_wi_0 z)⟩) _ _
        | exact Y 1 (by decide) c17 (Or.inr (Or.inl ⟨c17, Classical.byContradiction fun z => c28 (sw_wi_0 z)⟩)) _ _
        | exact Y 2 (by decide) c33 (Or.inr (Or.inr (Or.inl ⟨c33, Classical.byContradiction fun z => c43 (sw_wi_0 z)⟩))) _ _
        | exact Y 3 (by decide) (Classical.byContradiction fun z => c48 z) (Or.inr (Or.inr (Or.inr ⟨Classical.byContradiction fun z => c48 z, Classical.byContradiction fun z => c58 (sw_wi_0 z)⟩))) _ _
        | exact Y 0 (by decide) (Classical.byContradiction fun z => c1 z) (Or.inl ⟨Classical.byContradiction fun z => c1 z, Classical.byContradiction fun z => c12 (sw_wi_0 z)⟩) _ _
        | exact Y 1 (by decide) (Classical.byContradiction fun z => c17 z) (Or.inr (Or.inl ⟨Classical.byContradiction fun z => c17 z, Classical.byContradiction fun z => c28 (sw_wi_0 z)⟩)) _ _
        | exact Y 2 (by decide) (Classical.byContradiction fun z => c33 z) (Or.inr (Or.inr (Or.inl ⟨Classical.byContradiction fun z => c33 z, Classical.byContradiction fun z => c43 (sw_wi_0 z)⟩))) _ _
        | exact Y 3 (by decide) c48 (Or.inr (Or.inr (Or.inr ⟨c48, Classical.byContradiction fun z => c58 (sw_wi_0 z)⟩))) _ _
      · refine SW.iload_n (q := 32) (i := 1) dX8_rule_31 rfl rfl rfl ?_
        refine SW.iconst (q := 33) (v := 2) dX8_rule_32 (by decide) rfl ?_
        refine SW.icmp_ne (q := 36) (tgt := 46) dX8_rule_33 (by decide) rfl (fun c33 => ?_) (fun c33 => ?_)
        · refine SW.iload_n (q := 47) (i := 1) dX8_rule_46 rfl rfl rfl ?_
          refine SW.iconst (q := 48) (v := 3) dX8_rule_47 (by decide) rfl ?_
          refine SW.icmp_ne (q := 51) (tgt := 65) dX8_rule_48 (by decide) rfl (fun c48 => ?_) (fun c48 => ?_)
          · refine N (fun ok => ?_) _ _
            rcases ok with ⟨w, z⟩ | ⟨w, z⟩ | ⟨w, z⟩ | ⟨w, z⟩
            all_goals subst w
            all_goals first
            | exact absurd c12 (sw_wi_1 z.1 z.2)
            | exact absurd c28 (sw_wi_1 z.1 z.2)
            | exact absurd c43 (sw_wi_1 z.1 z.2)
            | exact absurd c58 (sw_wi_1 z.1 z.2)
            | exact absurd rfl c1
            | exact absurd rfl c17
            | exact absurd rfl c33
            | exact absurd rfl c48
            | exact absurd c1 (by decide)
            | exact absurd c17 (by decide)
            | exact absurd c33 (by decide)
            | exact absurd c48 (by decide)
          · refine SW.iload_n (q := 52) (i := 2) dX8_rule_51 rfl rfl rfl ?_
            refine SW.iconst (q := 53) (v := 0) dX8_rule_52 (by decide) rfl ?_
            refine SW.bipush (q := 55) (v := 100) dX8_rule_53 (by decide) rfl ?_
            refine SW.sF (q := 58) (C_X8_in) vX8_69 (by decide) rfl rfl (Nat.le_of_ble_eq_true rfl) dX8_rule_55 rfl ?_
            refine SW.if_eq (q := 61) (tgt := 65) dX8_rule_58 (by decide) rfl (fun c58 => ?_) (fun c58 => ?_)
            · refine N (fun ok => ?_) _ _
              rcases ok with ⟨w, z⟩ | ⟨w, z⟩ | ⟨w, z⟩ | ⟨w, z⟩
              all_goals subst w
              all_goals first
              | exact absurd c12 (sw_wi_1 z.1 z.2)
              | exact absurd c28 (sw_wi_1 z.1 z.2)
              | exact absurd c43 (sw_wi_1 z.1 z.2)
              | exact absurd c58 (sw_wi_1 z.1 z.2)
              | exact absurd rfl c1
              | exact absurd rfl c17
              | exact absurd rfl c33
              | exact absurd rfl c48
              | exact absurd c1 (by decide)
              | exact absurd c17 (by decide)
              | exact absurd c33 (by decide)
              | exact absurd c48 (by decide)
            · first
              | exact Y 0 (by decide) c1 (Or.inl ⟨c1, Classical.byContradiction fun z => c12 (sw_wi_0 z)⟩) _ _
              | exact Y 1 (by decide) c17 (Or.inr (Or.inl ⟨c17, Classical.byContradiction fun z => c28 (sw_wi_0 z)⟩)) _ _
              | exact Y 2 (by decide) c33 (Or.inr (Or.inr (Or.inl ⟨c33, Classical.byContradiction fun z => c43 (sw_wi_0 z)⟩))) _ _
              | exact Y 3 (by decide) (Classical.byContradiction fun z => c48 z) (Or.inr (Or.inr (Or.inr ⟨Classical.byContradiction fun z => c48 z, Classical.byContradiction fun z => c58 (sw_wi_0 z)⟩))) _ _
              | exact Y 0 (by decide) (Classical.byContradiction fun z => c1 z) (Or.inl ⟨Classical.byContradiction fun z => c1 z, Classical.byContradiction fun z => c12 (sw_wi_0 z)⟩) _ _
              | exact Y 1 (by decide) (Classical.byContradiction fun z => c17 z) (Or.inr (Or.inl ⟨Classical.byContradiction fun z => c17 z, Classical.byContradiction fun z => c28 (sw_wi_0 z)⟩)) _ _
              | exact Y 2 (by decide) (Classical.byContradiction fun z => c33 z) (Or.inr (Or.inr (Or.inl ⟨Classical.byContradiction fun z => c33 z, Classical.byContradiction fun z => c43 (sw_wi_0 z)⟩))) _ _
              | exact Y 3 (by decide) c48 (Or.inr (Or.inr (Or.inr ⟨c48, Classical.byContradiction fun z => c58 (sw_wi_0 z)⟩))) _ _
        · refine SW.iload_n (q := 37) (i := 2) dX8_rule_36 rfl rfl rfl ?_
          refine SW.iconst (q := 38) (v := 1) dX8_rule_37 (by decide) rfl ?_
          refine SW.bipush (q := 40) (v := 12) dX8_rule_38 (by decide) rfl ?_
          refine SW.sF (q := 43) (C_X8_in) vX8_69 (by decide) rfl rfl (Nat.le_of_ble_eq_true rfl) dX8_rule_40 rfl ?_
          refine SW.if_ne (q := 46) (tgt := 61) dX8_rule_43 (by decide) rfl (fun c43 => ?_) (fun c43 => ?_)
          · first
            | exact Y 0 (by decide) c1 (Or.inl ⟨c1, Classical.byContradiction fun z => c12 (sw_wi_0 z)⟩) _ _
            | exact Y 1 (by decide) c17 (Or.inr (Or.inl ⟨c17, Classical.byContradiction fun z => c28 (sw_wi_0 z)⟩)) _ _
            | exact Y 2 (by decide) c33 (Or.inr (Or.inr (Or.inl ⟨c33, Classical.byContradiction fun z => c43 (sw_wi_0 z)⟩))) _ _
            | exact Y 3 (by decide) (Classical.byContradiction fun z => c48 z) (Or.inr (Or.inr (Or.inr ⟨Classical.byContradiction fun z => c48 z, Classical.byContradiction fun z => c58 (sw_wi_0 z)⟩))) _ _
            | exact Y 0 (by decide) (Classical.byContradiction fun z => c1 z) (Or.inl ⟨Classical.byContradiction fun z => c1 z, Classical.byContradiction fun z => c12 (sw_wi_0 z)⟩) _ _
            | exact Y 1 (by decide) (Classical.byContradiction fun z => c17 z) (Or.inr (Or.inl ⟨Classical.byContradiction fun z => c17 z, Classical.byContradiction fun z => c28 (sw_wi_0 z)⟩)) _ _
            | exact Y 2 (by decide) (Classical.byContradiction fun z => c33 z) (Or.inr (Or.inr (Or.inl ⟨Classical.byContradiction fun z => c33 z, Classical.byContradiction fun z => c43 (sw_wi_0 z)⟩))) _ _
            | exact Y 3 (by decide) c48 (Or.inr (Or.inr (Or.inr ⟨c48, Classical.byContradiction fun z => c58 (sw_wi_0 z)⟩))) _ _
          · refine SW.iload_n (q := 47) (i := 1) dX8_rule_46 rfl rfl rfl ?_
            refine SW.iconst (q := 48) (v := 3) dX8_rule_47 (by decide) rfl ?_
            refine SW.icmp_ne (q := 51) (tgt := 65) dX8_rule_48 (by decide) rfl (fun c48 => ?_) (fun c48 => ?_)
            · refine N (fun ok => ?_) _ _
              rcases ok with ⟨w, z⟩ | ⟨w, z⟩ | ⟨w, z⟩ | ⟨w, z⟩
              all_goals subst w
              all_goals first
              | exact absurd c12 (sw_wi_1 z.1 z.2)
              | exact absurd c28 (sw_wi_1 z.1 z.2)
              | exact absurd c43 (sw_wi_1 z.1 z.2)
              | exact absurd c58 (sw_wi_1 z.1 z.2)
              | exact absurd rfl c1
              | exact absurd rfl c17
              | exact absurd rfl c33
              | exact absurd rfl c48
              | exact absurd c1 (by decide)
              | exact absurd c17 (by decide)
              | exact absurd c33 (by decide)
              | exact absurd c48 (by decide)
            · refine SW.iload_n (q := 52) (i := 2) dX8_rule_51 rfl rfl rfl ?_
              refine SW.iconst (q := 53) (v := 0) dX8_rule_52 (by decide) rfl ?_
              refine SW.bipush (q := 55) (v := 100) dX8_rule_53 (by decide) rfl ?_
              refine SW.sF (q := 58) (C_X8_in) vX8_69 (by decide) rfl rfl (Nat.le_of_ble_eq_true rfl) dX8_rule_55 rfl ?_
              refine SW.if_eq (q := 61) (tgt := 65) dX8_rule_58 (by decide) rfl (fun c58 => ?_) (fun c58 => ?_)
              · refine N (fun ok => ?_) _ _
                rcases ok with ⟨w, z⟩ | ⟨w, z⟩ | ⟨w, z⟩ | ⟨w, z⟩
                all_goals subst w
                all_goals first
                | exact absurd c12 (sw_wi_1 z.1 z.2)
                | exact absurd c28 (sw_wi_1 z.1 z.2)
                | exact absurd c43 (sw_wi_1 z.1 z.2)
                | exact absurd c58 (sw_wi_1 z.1 z.2)
                | exact absurd rfl c1
                | exact absurd rfl c17
                | exact absurd rfl c33
                | exact absurd rfl c48
                | exact absurd c1 (by decide)
                | exact absurd c17 (by decide)
                | exact absurd c33 (by decide)
                | exact absurd c48 (by decide)
              · first
                | exact Y 0 (by decide) c1 (Or.inl ⟨c1, Classical.byContradiction fun z => c12 (sw_wi_0 z)⟩) _ _
                | exact Y 1 (by decide) c17 (Or.inr (Or.inl ⟨c17, Classical.byContradiction fun z => c28 (sw_wi_0 z)⟩)) _ _
                | exact Y 2 (by decide) c33 (Or.inr (Or.inr (Or.inl ⟨c33, Classical.byContradiction fun z => c43 (sw_wi_0 z)⟩))) _ _
                | exact Y 3 (by decide) (Classical.byContradiction fun z => c48 z) (Or.inr (Or.inr (Or.inr ⟨Classical.byContradiction fun z => c48 z, Classical.byContradiction fun z => c58 (sw_wi_0 z)⟩))) _ _
                | exact Y 0 (by decide) (Classical.byContradiction fun z => c1 z) (Or.inl ⟨Classical.byContradiction fun z => c1 z, Classical.byContradiction fun z => c12 (sw_wi_0 z)⟩) _ _
                | exact Y 1 (by decide) (Classical.byContradiction fun z => c17 z) (Or.inr (Or.inl ⟨Classical.byContradiction fun z => c17 z, Classical.byContradiction fun z => c28 (sw_wi_0 z)⟩)) _ _
                | exact Y 2 (by decide) (Classical.byContradiction fun z => c33 z) (Or.inr (Or.inr (Or.inl ⟨Classical.byContradiction fun z => c33 z, Classical.byContradiction fun z => c43 (sw_wi_0 z)⟩))) _ _
                | exact Y 3 (by decide) c48 (Or.inr (Or.inr (Or.inr ⟨c48, Classical.byContradiction fun z => c58 (sw_wi_0 z)⟩))) _ _
  · refine SW.iload_n (q := 5) (i := 2) dX8_rule_4 rfl rfl rfl ?_
    refine SW.iconst (q := 6) (v := 0) dX8_rule_5 (by decide) rfl ?_
    refine SW.sipush (q := 9) (v := 255) dX8_rule_6 (by decide) rfl ?_
    refine SW.sF (q := 12) (C_X8_in) vX8_69 (by decide) rfl rfl (Nat.le_of_ble_eq_true rfl) dX8_rule_9 rfl ?_
    refine SW.if_ne (q := 15) (tgt := 61) dX8_rule_12 (by decide) rfl (fun c12 => ?_) (fun c12 => ?_)
    · first
      | exact Y 0 (by decide) c1 (Or.inl ⟨c1, Classical.byContradiction fun z => c12 (sw_wi_0 z)⟩) _ _
      | exact Y 1 (by decide) c17 (Or.inr (Or.inl ⟨c17, Classical.byContradiction fun z => c28 (sw_wi_0 z)⟩)) _ _
      | exact Y 2 (by decide) c33 (Or.inr (Or.inr (Or.inl ⟨c33, Classical.byContradiction fun z => c43 (sw_wi_0 z)⟩))) _ _
      | exact Y 3 (by decide) (Classical.byContradiction fun z => c48 z) (Or.inr (Or.inr (Or.inr ⟨Classical.byContradiction fun z => c48 z, Classical.byContradiction fun z => c58 (sw_wi_0 z)⟩))) _ _
      | exact Y 0 (by decide) (Classical.byContradiction fun z => c1 z) (Or.inl ⟨Classical.byContradiction fun z => c1 z, Classical.byContradiction fun z => c12 (sw_wi_0 z)⟩) _ _
      | exact Y 1 (by decide) (Classical.byContradiction fun z => c17 z) (Or.inr (Or.inl ⟨Classical.byContradiction fun z => c17 z, Classical.byContradiction fun z => c28 (sw_wi_0 z)⟩)) _ _
      | exact Y 2 (by decide) (Classical.byContradiction fun z => c33 z) (Or.inr (Or.inr (Or.inl ⟨Classical.byContradiction fun z => c33 z, Classical.byContradiction fun z => c43 (sw_wi_0 z)⟩))) _ _
      | exact Y 3 (by decide) c48 (Or.inr (Or.inr (Or.inr ⟨c48, Classical.byContradiction fun z => c58 (sw_wi_0 z)⟩))) _ _
    · refine SW.iload_n (q := 16) (i := 1) dX8_rule_15 rfl rfl rfl ?_
      refine SW.iconst (q := 17) (v := 1) dX8_rule_16 (by decide) rfl ?_
      refine SW.icmp_ne (q := 20) (tgt := 31) dX8_rule_17 (by decide) rfl (fun c17 => ?_) (fun c17 => ?_)
      · refine SW.iload_n (q := 32) (i := 1) dX8_rule_31 rfl rfl rfl ?_
        refine SW.iconst (q := 33) (v := 2) dX8_rule_32 (by decide) rfl ?_
        refine SW.icmp_ne (q := 36) (tgt := 46) dX8_rule_33 (by decide) rfl (fun c33 => ?_) (fun c33 => ?_)
        · refine SW.iload_n (q := 47) (i := 1) dX8_rule_46 rfl rfl rfl ?_
          refine SW.iconst (q := 48) (v := 3) dX8_rule_47 (by decide) rfl ?_
          refine SW.icmp_ne (q := 51) (tgt := 65) dX8_rule_48 (by decide) rfl (fun c48 => ?_) (fun c48 => ?_)
          · refine N (fun ok => ?_) _ _
            rcases ok with ⟨w, z⟩ | ⟨w, z⟩ | ⟨w, z⟩ | ⟨w, z⟩
            all_goals subst w
            all_goals first
            | exact absurd c12 (sw_wi_1 z.1 z.2)
            | exact absurd c28 (sw_wi_1 z.1 z.2)
            | exact absurd c43 (sw_wi_1 z.1 z.2)
            | exact absurd c58 (sw_wi_1 z.1 z.2)
            | exact absurd rfl c1
            | exact absurd rfl c17
            | exact absurd rfl c33
            | exact absurd rfl c48
            | exact absurd c1 (by decide)
            | exact absurd c17 (by decide)
            | exact absurd c33 (by decide)
            | exact absurd c48 (by decide)
          · refine SW.iload_n (q := 52) (i := 2) dX8_rule_51 rfl rfl rfl ?_
            refine SW.iconst (q := 53) (v := 0) dX8_rule_52 (by decide) rfl ?_
            refine SW.bipush (q := 55) (v := 100) dX8_rule_53 (by decide) rfl ?_
            refine SW.sF (q := 58) (C_X8_in) vX8_69 (by decide) rfl rfl (Nat.le_of_ble_eq_true rfl) dX8_rule_55 rfl ?_
            refine SW.if_eq (q := 61) (tgt := 65) dX8_rule_58 (by decide) rfl (fun c58 => ?_) (fun c58 => ?_)
            · refine N (fun ok => ?_) _ _
              rcases ok with ⟨w, z⟩ | ⟨w, z⟩ | ⟨w, z⟩ | ⟨w, z⟩
              all_goals subst w
              all_goals first
              | exact absurd c12 (sw_wi_1 z.1 z.2)
              | exact absurd c28 (sw_wi_1 z.1 z.2)
              | exact absurd c43 (sw_wi_1 z.1 z.2)
              | exact absurd c58 (sw_wi_1 z.1 z.2)
              | exact absurd rfl c1
              | exact absurd rfl c17
              | exact absurd rfl c33
              | exact absurd rfl c48
              | exact absurd c1 (by decide)
              | exact absurd c17 (by decide)
              | exact absurd c33 (by decide)
              | exact absurd c48 (by decide)
            · first
              | exact Y 0 (by decide) c1 (Or.inl ⟨c1, Classical.byContradiction fun z => c12 (sw_wi_0 z)⟩) _ _
              | exact Y 1 (by decide) c17 (Or.inr (Or.inl ⟨c17, Classical.byContradiction fun z => c28 (sw_wi_0 z)⟩)) _ _
              | exact Y 2 (by decide) c33 (Or.inr (Or.inr (Or.inl ⟨c33, Classical.byContradiction fun z => c43 (sw_wi_0 z)⟩))) _ _
              | exact Y 3 (by decide) (Classical.byContradiction fun z => c48 z) (Or.inr (Or.inr (Or.inr ⟨Classical.byContradiction fun z => c48 z, Classical.byContradiction fun z => c58 (sw_wi_0 z)⟩))) _ _
              | exact Y 0 (by decide) (Classical.byContradiction fun z => c1 z) (Or.inl ⟨Classical.byContradiction fun z => c1 z, Classical.byContradiction fun z => c12 (sw_wi_0 z)⟩) _ _
              | exact Y 1 (by decide) (Classical.byContradiction fun z => c17 z) (Or.inr (Or.inl ⟨Classical.byContradiction fun z => c17 z, Classical.byContradiction fun z => c28 (sw_wi_0 z)⟩)) _ _
              | exact Y 2 (by decide) (Classical.byContradiction fun z => c33 z) (Or.inr (Or.inr (Or.inl ⟨Classical.byContradiction fun z => c33 z, Classical.byContradiction fun z => c43 (sw_wi_0 z)⟩))) _ _
              | exact Y 3 (by decide) c48 (Or.inr (Or.inr (Or.inr ⟨c48, Classical.byContradiction fun z => c58 (sw_wi_0 z)⟩))) _ _
        · refine SW.iload_n (q := 37) (i := 2) dX8_rule_36 rfl rfl rfl ?_
          refine SW.iconst (q := 38) (v := 1) dX8_rule_37 (by decide) rfl ?_
          refine SW.bipush (q := 40) (v := 12) dX8_rule_38 (by decide) rfl ?_
          refine SW.sF (q := 43) (C_X8_in) vX8_69 (by decide) rfl rfl (Nat.le_of_ble_eq_true rfl) dX8_rule_40 rfl ?_
          refine SW.if_ne (q := 46) (tgt := 61) dX8_rule_43 (by decide) rfl (fun c43 => ?_) (fun c43 => ?_)
          · first
            | exact Y 0 (by decide) c1 (Or.inl ⟨c1, Classical.byContradiction fun z => c12 (sw_wi_0 z)⟩) _ _
            | exact Y 1 (by decide) c17 (Or.inr (Or.inl ⟨c17, Classical.byContradiction fun z => c28 (sw_wi_0 z)⟩)) _ _
            | exact Y 2 (by decide) c33 (Or.inr (Or.inr (Or.inl ⟨c33, Classical.byContradiction fun z => c43 (sw_wi_0 z)⟩))) _ _
            | exact Y 3 (by decide) (Classical.byContradiction fun z => c48 z) (Or.inr (Or.inr (Or.inr ⟨Classical.byContradiction fun z => c48 z, Classical.byContradiction fun z => c58 (sw_wi_0 z)⟩))) _ _
            | exact Y 0 (by decide) (Classical.byContradiction fun z => c1 z) (Or.inl ⟨Classical.byContradiction fun z => c1 z, Classical.byContradiction fun z => c12 (sw_wi_0 z)⟩) _ _
            | exact Y 1 (by decide) (Classical.byContradiction fun z => c17 z) (Or.inr (Or.inl ⟨Classical.byContradiction fun z => c17 z, Classical.byContradiction fun z => c28 (sw_wi_0 z)⟩)) _ _
            | exact Y 2 (by decide) (Classical.byContradiction fun z => c33 z) (Or.inr (Or.inr (Or.inl ⟨Classical.byContradiction fun z => c33 z, Classical.byContradiction fun z => c43 (sw_wi_0 z)⟩))) _ _
            | exact Y 3 (by decide) c48 (Or.inr (Or.inr (Or.inr ⟨c48, Classical.byContradiction fun z => c58 (sw_wi_0 z)⟩))) _ _
          · refine SW.iload_n (q := 47) (i := 1) dX8_rule_46 rfl rfl rfl ?_
            refine SW.iconst (q := 48) (v := 3) dX8_rule_47 (by decide) rfl ?_
            refine SW.icmp_ne (q := 51) (tgt := 65) dX8_rule_48 (by decide) rfl (fun c48 => ?_) (fun c48 => ?_)
            · refine N (fun ok => ?_) _ _
              rcases ok with ⟨w, z⟩ | ⟨w, z⟩ | ⟨w, z⟩ | ⟨w, z⟩
              all_goals subst w
              all_goals first
              | exact absurd c12 (sw_wi_1 z.1 z.2)
              | exact absurd c28 (sw_wi_1 z.1 z.2)
              | exact absurd c43 (sw_wi_1 z.1 z.2)
              | exact absurd c58 (sw_wi_1 z.1 z.2)
              | exact absurd rfl c1
              | exact absurd rfl c17
              | exact absurd rfl c33
              | exact absurd rfl c48
              | exact absurd c1 (by decide)
              | exact absurd c17 (by decide)
              | exact absurd c33 (by decide)
              | exact absurd c48 (by decide)
            · refine SW.iload_n (q := 52) (i := 2) dX8_rule_51 rfl rfl rfl ?_
              refine SW.iconst (q := 53) (v := 0) dX8_rule_52 (by decide) rfl ?_
              refine SW.bipush (q := 55) (v := 100) dX8_rule_53 (by decide) rfl ?_
              refine SW.sF (q := 58) (C_X8_in) vX8_69 (by decide) rfl rfl (Nat.le_of_ble_eq_true rfl) dX8_rule_55 rfl ?_
              refine SW.if_eq (q := 61) (tgt := 65) dX8_rule_58 (by decide) rfl (fun c58 => ?_) (fun c58 => ?_)
              · refine N (fun ok => ?_) _ _
                rcases ok with ⟨w, z⟩ | ⟨w, z⟩ | ⟨w, z⟩ | ⟨w, z⟩
                all_goals subst w
                all_goals first
                | exact absurd c12 (sw_wi_1 z.1 z.2)
                | exact absurd c28 (sw_wi_1 z.1 z.2)
                | exact absurd c43 (sw_wi_1 z.1 z.2)
                | exact absurd c58 (sw_wi_1 z.1 z.2)
                | exact absurd rfl c1
                | exact absurd rfl c17
                | exact absurd rfl c33
                | exact absurd rfl c48
                | exact absurd c1 (by decide)
                | exact absurd c17 (by decide)
                | exact absurd c33 (by decide)
                | exact absurd c48 (by decide)
              · first
                | exact Y 0 (by decide) c1 (Or.inl ⟨c1, Classical.byContradiction fun z => c12 (sw_wi_0 z)⟩) _ _
                | exact Y 1 (by decide) c17 (Or.inr (Or.inl ⟨c17, Classical.byContradiction fun z => c28 (sw_wi_0 z)⟩)) _ _
                | exact Y 2 (by decide) c33 (Or.inr (Or.inr (Or.inl ⟨c33, Classical.byContradiction fun z => c43 (sw_wi_0 z)⟩))) _ _
                | exact Y 3 (by decide) (Classical.byContradiction fun z => c48 z) (Or.inr (Or.inr (Or.inr ⟨Classical.byContradiction fun z => c48 z, Classical.byContradiction fun z => c58 (sw_wi_0 z)⟩))) _ _
                | exact Y 0 (by decide) (Classical.byContradiction fun z => c1 z) (Or.inl ⟨Classical.byContradiction fun z => c1 z, Classical.byContradiction fun z => c12 (sw_wi_0 z)⟩) _ _
                | exact Y 1 (by decide) (Classical.byContradiction fun z => c17 z) (Or.inr (Or.inl ⟨Classical.byContradiction fun z => c17 z, Classical.byContradiction fun z => c28 (sw_wi_0 z)⟩)) _ _
                | exact Y 2 (by decide) (Classical.byContradiction fun z => c33 z) (Or.inr (Or.inr (Or.inl ⟨Classical.byContradiction fun z => c33 z, Classical.byContradiction fun z => c43 (sw_wi_0 z)⟩))) _ _
                | exact Y 3 (by decide) c48 (Or.inr (Or.inr (Or.inr ⟨c48, Classical.byContradiction fun z => c58 (sw_wi_0 z)⟩))) _ _
      · refine SW.iload_n (q := 21) (i := 2) dX8_rule_20 rfl rfl rfl ?_
        refine SW.iconst (q := 22) (v := 2) dX8_rule_21 (by decide) rfl ?_
        refine SW.sipush (q := 25) (v := 200) dX8_rule_22 (by decide) rfl ?_
        refine SW.sF (q := 28) (C_X8_in) vX8_69 (by decide) rfl rfl (Nat.le_of_ble_eq_true rfl) dX8_rule_25 rfl ?_
        refine SW.if_ne (q := 31) (tgt := 61) dX8_rule_28 (by decide) rfl (fun c28 => ?_) (fun c28 => ?_)
        · first
          | exact Y 0 (by decide) c1 (Or.inl ⟨c1, Classical.byContradiction fun z => c12 (sw_wi_0 z)⟩) _ _
          | exact Y 1 (by decide) c17 (Or.inr (Or.inl ⟨c17, Classical.byContradiction fun z => c28 (sw_wi_0 z)⟩)) _ _
          | exact Y 2 (by decide) c33 (Or.inr (Or.inr (Or.inl ⟨c33, Classical.byContradiction fun z => c43 (sw_wi_0 z)⟩))) _ _
          | exact Y 3 (by decide) (Classical.byContradiction fun z => c48 z) (Or.inr (Or.inr (Or.inr ⟨Classical.byContradiction fun z => c48 z, Classical.byContradiction fun z => c58 (sw_wi_0 z)⟩))) _ _
          | exact Y 0 (by decide) (Classical.byContradiction fun z => c1 z) (Or.inl ⟨Classical.byContradiction fun z => c1 z, Classical.byContradiction fun z => c12 (sw_wi_0 z)⟩) _ _
          | exact Y 1 (by decide) (Classical.byContradiction fun z => c17 z) (Or.inr (Or.inl ⟨Classical.byContradiction fun z => c17 z, Classical.byContradiction fun z => c28 (sw_wi_0 z)⟩)) _ _
          | exact Y 2 (by decide) (Classical.byContradiction fun z => c33 z) (Or.inr (Or.inr (Or.inl ⟨Classical.byContradiction fun z => c33 z, Classical.byContradiction fun z => c43 (sw_wi_0 z)⟩))) _ _
          | exact Y 3 (by decide) c48 (Or.inr (Or.inr (Or.inr ⟨c48, Classical.byContradiction fun z => c58 (sw_wi_0 z)⟩))) _ _
        · refine SW.iload_n (q := 32) (i := 1) dX8_rule_31 rfl rfl rfl ?_
          refine SW.iconst (q := 33) (v := 2) dX8_rule_32 (by decide) rfl ?_
          refine SW.icmp_ne (q := 36) (tgt := 46) dX8_rule_33 (by decide) rfl (fun c33 => ?_) (fun c33 => ?_)
          · refine SW.iload_n (q := 47) (i := 1) dX8_rule_46 rfl rfl rfl ?_
            refine SW.iconst (q := 48) (v := 3) dX8_rule_47 (by decide) rfl ?_
            refine SW.icmp_ne (q := 51) (tgt := 65) dX8_rule_48 (by decide) rfl (fun c48 => ?_) (fun c48 => ?_)
            · refine N (fun ok => ?_) _ _
              rcases ok with ⟨w, z⟩ | ⟨w, z⟩ | ⟨w, z⟩ | ⟨w, z⟩
              all_goals subst w
              all_goals first
              | exact absurd c12 (sw_wi_1 z.1 z.2)
              | exact absurd c28 (sw_wi_1 z.1 z.2)
              | exact absurd c43 (sw_wi_1 z.1 z.2)
              | exact absurd c58 (sw_wi_1 z.1 z.2)
              | exact absurd rfl c1
              | exact absurd rfl c17
              | exact absurd rfl c33
              | exact absurd rfl c48
              | exact absurd c1 (by decide)
              | exact absurd c17 (by decide)
              | exact absurd c33 (by decide)
              | exact absurd c48 (by decide)
            · refine SW.iload_n (q := 52) (i := 2) dX8_rule_51 rfl rfl rfl ?_
              refine SW.iconst (q := 53) (v := 0) dX8_rule_52 (by decide) rfl ?_
              refine SW.bipush (q := 55) (v := 100) dX8_rule_53 (by decide) rfl ?_
              refine SW.sF (q := 58) (C_X8_in) vX8_69 (by decide) rfl rfl (Nat.le_of_ble_eq_true rfl) dX8_rule_55 rfl ?_
              refine SW.if_eq (q := 61) (tgt := 65) dX8_rule_58 (by decide) rfl (fun c58 => ?_) (fun c58 => ?_)
              · refine N (fun ok => ?_) _ _
                rcases ok with ⟨w, z⟩ | ⟨w, z⟩ | ⟨w, z⟩ | ⟨w, z⟩
                all_goals subst w
                all_goals first
                | exact absurd c12 (sw_wi_1 z.1 z.2)
                | exact absurd c28 (sw_wi_1 z.1 z.2)
                | exact absurd c43 (sw_wi_1 z.1 z.2)
                | exact absurd c58 (sw_wi_1 z.1 z.2)
                | exact absurd rfl c1
                | exact absurd rfl c17
                | exact absurd rfl c33
                | exact absurd rfl c48
                | exact absurd c1 (by decide)
                | exact absurd c17 (by decide)
                | exact absurd c33 (by decide)
                | exact absurd c48 (by decide)
              · first
                | exact Y 0 (by decide) c1 (Or.inl ⟨c1, Classical.byContradiction fun z => c12 (sw_wi_0 z)⟩) _ _
                | exact Y 1 (by decide) c17 (Or.inr (Or.inl ⟨c17, Classical.byContradiction fun z => c28 (sw_wi_0 z)⟩)) _ _
                | exact Y 2 (by decide) c33 (Or.inr (Or.inr (Or.inl ⟨c33, Classical.byContradiction fun z => c43 (sw_wi_0 z)⟩))) _ _
                | exact Y 3 (by decide) (Classical.byContradiction fun z => c48 z) (Or.inr (Or.inr (Or.inr ⟨Classical.byContradiction fun z => c48 z, Classical.byContradiction fun z => c58 (sw_wi_0 z)⟩))) _ _
                | exact Y 0 (by decide) (Classical.byContradiction fun z => c1 z) (Or.inl ⟨Classical.byContradiction fun z => c1 z, Classical.byContradiction fun z => c12 (sw_wi_0 z)⟩) _ _
                | exact Y 1 (by decide) (Classical.byContradiction fun z => c17 z) (Or.inr (Or.inl ⟨Classical.byContradiction fun z => c17 z, Classical.byContradiction fun z => c28 (sw_wi_0 z)⟩)) _ _
                | exact Y 2 (by decide) (Classical.byContradiction fun z => c33 z) (Or.inr (Or.inr (Or.inl ⟨Classical.byContradiction fun z => c33 z, Classical.byContradiction fun z => c43 (sw_wi_0 z)⟩))) _ _
                | exact Y 3 (by decide) c48 (Or.inr (Or.inr (Or.inr ⟨c48, Classical.byContradiction fun z => c58 (sw_wi_0 z)⟩))) _ _
          · refine SW.iload_n (q := 37) (i := 2) dX8_rule_36 rfl rfl rfl ?_
            refine SW.iconst (q := 38) (v := 1) dX8_rule_37 (by decide) rfl ?_
            refine SW.bipush (q := 40) (v := 12) dX8_rule_38 (by decide) rfl ?_
            refine SW.sF (q := 43) (C_X8_in) vX8_69 (by decide) rfl rfl (Nat.le_of_ble_eq_true rfl) dX8_rule_40 rfl ?_
            refine SW.if_ne (q := 46) (tgt := 61) dX8_rule_43 (by decide) rfl (fun c43 => ?_) (fun c43 => ?_)
            · first
              | exact Y 0 (by decide) c1 (Or.inl ⟨c1, Classical.byContradiction fun z => c12 (sw_wi_0 z)⟩) _ _
              | exact Y 1 (by decide) c17 (Or.inr (Or.inl ⟨c17, Classical.byContradiction fun z => c28 (sw_wi_0 z)⟩)) _ _
              | exact Y 2 (by decide) c33 (Or.inr (Or.inr (Or.inl ⟨c33, Classical.byContradiction fun z => c43 (sw_wi_0 z)⟩))) _ _
              | exact Y 3 (by decide) (Classical.byContradiction fun z => c48 z) (Or.inr (Or.inr (Or.inr ⟨Classical.byContradiction fun z => c48 z, Classical.byContradiction fun z => c58 (sw_wi_0 z)⟩))) _ _
              | exact Y 0 (by decide) (Classical.byContradiction fun z => c1 z) (Or.inl ⟨Classical.byContradiction fun z => c1 z, Classical.byContradiction fun z => c12 (sw_wi_0 z)⟩) _ _
              | exact Y 1 (by decide) (Classical.byContradiction fun z => c17 z) (Or.inr (Or.inl ⟨Classical.byContradiction fun z => c17 z, Classical.byContradiction fun z => c28 (sw_wi_0 z)⟩)) _ _
              | exact Y 2 (by decide) (Classical.byContradiction fun z => c33 z) (Or.inr (Or.inr (Or.inl ⟨Classical.byContradiction fun z => c33 z, Classical.byContradiction fun z => c43 (sw_wi_0 z)⟩))) _ _
              | exact Y 3 (by decide) c48 (Or.inr (Or.inr (Or.inr ⟨c48, Classical.byContradiction fun z => c58 (sw_wi_0 z)⟩))) _ _
            · refine SW.iload_n (q := 47) (i := 1) dX8_rule_46 rfl rfl rfl ?_
              refine SW.iconst (q := 48) (v := 3) dX8_rule_47 (by decide) rfl ?_
              refine SW.icmp_ne (q := 51) (tgt := 65) dX8_rule_48 (by decide) rfl (fun c48 => ?_) (fun c48 => ?_)
              · refine N (fun ok => ?_) _ _
                rcases ok with ⟨w, z⟩ | ⟨w, z⟩ | ⟨w, z⟩ | ⟨w, z⟩
                all_goals subst w
                all_goals first
                | exact absurd c12 (sw_wi_1 z.1 z.2)
                | exact absurd c28 (sw_wi_1 z.1 z.2)
                | exact absurd c43 (sw_wi_1 z.1 z.2)
                | exact absurd c58 (sw_wi_1 z.1 z.2)
                | exact absurd rfl c1
                | exact absurd rfl c17
                | exact absurd rfl c33
                | exact absurd rfl c48
                | exact absurd c1 (by decide)
                | exact absurd c17 (by decide)
                | exact absurd c33 (by decide)
                | exact absurd c48 (by decide)
              · refine SW.iload_n (q := 52) (i := 2) dX8_rule_51 rfl rfl rfl ?_
                refine SW.iconst (q := 53) (v := 0) dX8_rule_52 (by decide) rfl ?_
                refine SW.bipush (q := 55) (v := 100) dX8_rule_53 (by decide) rfl ?_
                refine SW.sF (q := 58) (C_X8_in) vX8_69 (by decide) rfl rfl (Nat.le_of_ble_eq_true rfl) dX8_rule_55 rfl ?_
                refine SW.if_eq (q := 61) (tgt := 65) dX8_rule_58 (by decide) rfl (fun c58 => ?_) (fun c58 => ?_)
                · refine N (fun ok => ?_) _ _
                  rcases ok with ⟨w, z⟩ | ⟨w, z⟩ | ⟨w, z⟩ | ⟨w, z⟩
                  all_goals subst w
                  all_goals first
                  | exact absurd c12 (sw_wi_1 z.1 z.2)
                  | exact absurd c28 (sw_wi_1 z.1 z.2)
                  | exact absurd c43 (sw_wi_1 z.1 z.2)
                  | exact absurd c58 (sw_wi_1 z.1 z.2)
                  | exact absurd rfl c1
                  | exact absurd rfl c17
                  | exact absurd rfl c33
                  | exact absurd rfl c48
                  | exact absurd c1 (by decide)
                  | exact absurd c17 (by decide)
                  | exact absurd c33 (by decide)
                  | exact absurd c48 (by decide)
                · first
                  | exact Y 0 (by decide) c1 (Or.inl ⟨c1, Classical.byContradiction fun z => c12 (sw_wi_0 z)⟩) _ _
                  | exact Y 1 (by decide) c17 (Or.inr (Or.inl ⟨c17, Classical.byContradiction fun z => c28 (sw_wi_0 z)⟩)) _ _
                  | exact Y 2 (by decide) c33 (Or.inr (Or.inr (Or.inl ⟨c33, Classical.byContradiction fun z => c43 (sw_wi_0 z)⟩))) _ _
                  | exact Y 3 (by decide) (Classical.byContradiction fun z => c48 z) (Or.inr (Or.inr (Or.inr ⟨Classical.byContradiction fun z => c48 z, Classical.byContradiction fun z => c58 (sw_wi_0 z)⟩))) _ _
                  | exact Y 0 (by decide) (Classical.byContradiction fun z => c1 z) (Or.inl ⟨Classical.byContradiction fun z => c1 z, Classical.byContradiction fun z => c12 (sw_wi_0 z)⟩) _ _
                  | exact Y 1 (by decide) (Classical.byContradiction fun z => c17 z) (Or.inr (Or.inl ⟨Classical.byContradiction fun z => c17 z, Classical.byContradiction fun z => c28 (sw_wi_0 z)⟩)) _ _
                  | exact Y 2 (by decide) (Classical.byContradiction fun z => c33 z) (Or.inr (Or.inr (Or.inl ⟨Classical.byContradiction fun z => c33 z, Classical.byContradiction fun z => c43 (sw_wi_0 z)⟩))) _ _
                  | exact Y 3 (by decide) c48 (Or.inr (Or.inr (Or.inr ⟨c48, Classical.byContradiction fun z => c58 (sw_wi_0 z)⟩))) _ _
end MRULE
