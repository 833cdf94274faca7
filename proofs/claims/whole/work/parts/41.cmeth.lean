/-! the class's own methods: what is asked -/
def fc_ (σ u : sw_Sg) : Prop := ∀ i, 59 ≤ i → u i = σ i
def ce_ (σ u : sw_Sg) : Prop := u 1 0 = σ 1 0 ∧ u 33 1 = σ 33 1 ∧ u 34 = σ 34 ∧ u 35 = σ 35 ∧ u 36 = σ 36
theorem fc_rf {σ : sw_Sg} : fc_ σ σ := fun _ _ => rfl
theorem ce_rf {σ : sw_Sg} : ce_ σ σ := ⟨rfl, rfl, rfl, rfl, rfl⟩
theorem fc_fr {l : List Nat} {σ u : sw_Sg} (hf : fr_ l σ u) (h : ∀ i ∈ l, i < 59) : fc_ σ u := fun i hi => hf i (fun z => absurd (h i z) (by omega))
theorem ce_fr {l : List Nat} {σ u : sw_Sg} (hf : fr_ l σ u) (h : ∀ i ∈ [1, 33, 34, 35, 36], i ∉ l) : ce_ σ u :=
  ⟨by rw [hf 1 (h 1 (by decide))], by rw [hf 33 (h 33 (by decide))], hf 34 (h 34 (by decide)), hf 35 (h 35 (by decide)), hf 36 (h 36 (by decide))⟩
theorem pl_in {n : Nat} {x : Int32} (n24 : n ≤ 24) (h : 0 ≤ x ∧ x < nI (n * n)) : ∃ q, q < n * n ∧ x = nI q := by
  have h576 := gr_576 n24
  have h1 := i_le.mp h.1
  have h2 := i_lt.mp h.2
  rw [nI_toInt (by omega)] at h2
  have h0 : (0 : Int32).toInt = 0 := rfl
  rw [h0] at h1
  refine ⟨x.toInt.toNat, by omega, ?_⟩
  apply Int32.toInt_inj.mp
  rw [nI_toInt (by omega)]
  omega
def bc_ok (x : Int32) : Prop := x = 1 ∨ x = 2 ∨ x = 4 ∨ x = 8 ∨ x = 16 ∨ x = 32
def av_ (u : sw_Sg) (q : Nat) (what : Int32) : Int32 := if what = 0 then u 40 q else if what = 1 then u 41 q else if what = 2 then u 42 q else if what = 3 then u 43 q else if what = 4 then u 44 q else if what = 5 then u 45 q else if what = 6 then u 52 q else -2
def sg_ (k : Int32) (t : Prop) [Decidable t] (o : Int32) : Int32 := if 0 < o then (if t then k ||| 16 else k) ||| 32 else (if t then k ||| 16 else k)
section CMETH
variable {X : sw_X} {σ τ u : sw_Sg} {x y v w st what : Int32} {n a b c sea g br wn k s M p : Nat} {L : List Nat}
theorem C_bitCount (hx : x = nI k) (hk : k ≤ 32) : sw_Mi X 0 mJ6_bitCount_0f7a4 [.int x] σ (fun v u => u = σ ∧ (v = 1 ↔ bc_ok x)) := by
  subst hx
  refine sw_ME.ofF (by decide +kernel) rfl (Nat.le_of_ble_eq_true rfl) rfl ?_
  refine SW.iload_n (q := 1) (i := 0) dJ6_bitCount_0f7a4_0 rfl rfl rfl ?_
  refine SW.iload_n (q := 2) (i := 0) dJ6_bitCount_0f7a4_1 rfl rfl rfl ?_
  refine SW.iconst (q := 3) (v := 1) dJ6_bitCount_0f7a4_2 (by decide) rfl ?_
  refine SW.iushr (q := 4) dJ6_bitCount_0f7a4_3 rfl rfl ?_
  refine SW.ldcw (q := 7) kJ6_265 dJ6_bitCount_0f7a4_4 rfl ?_
  refine SW.iand (q := 8) dJ6_bitCount_0f7a4_7 rfl ?_
  refine SW.isub (q := 9) dJ6_bitCount_0f7a4_8 rfl ?_
  refine SW.istore_n (q := 10) (i := 0) dJ6_bitCount_0f7a4_9 rfl (by decide) rfl ?_
  refine SW.iload_n (q := 11) (i := 0) dJ6_bitCount_0f7a4_10 rfl rfl rfl ?_
  refine SW.ldcw (q := 14) kJ6_266 dJ6_bitCount_0f7a4_11 rfl ?_
  refine SW.iand (q := 15) dJ6_bitCount_0f7a4_14 rfl ?_
  refine SW.iload_n (q := 16) (i := 0) dJ6_bitCount_0f7a4_15 rfl rfl rfl ?_
  refine SW.iconst (q := 17) (v := 2) dJ6_bitCount_0f7a4_16 (by decide) rfl ?_
  refine SW.iushr (q := 18) dJ6_bitCount_0f7a4_17 rfl rfl ?_
  refine SW.ldcw (q := 21) kJ6_266 dJ6_bitCount_0f7a4_18 rfl ?_
  refine SW.iand (q := 22) dJ6_bitCount_0f7a4_21 rfl ?_
  refine SW.iadd (q := 23) dJ6_bitCount_0f7a4_22 rfl ?_
  refine SW.istore_n (q := 24) (i := 0) dJ6_bitCount_0f7a4_23 rfl (by decide) rfl ?_
  refine SW.iload_n (q := 25) (i := 0) dJ6_bitCount_0f7a4_24 rfl rfl rfl ?_
  refine SW.iload_n (q := 26) (i := 0) dJ6_bitCount_0f7a4_25 rfl rfl rfl ?_
  refine SW.iconst (q := 27) (v := 4) dJ6_bitCount_0f7a4_26 (by decide) rfl ?_
  refine SW.iushr (q := 28) dJ6_bitCount_0f7a4_27 rfl rfl ?_
  refine SW.iadd (q := 29) dJ6_bitCount_0f7a4_28 rfl ?_
  refine SW.ldcw (q := 32) kJ6_267 dJ6_bitCount_0f7a4_29 rfl ?_
  refine SW.iand (q := 33) dJ6_bitCount_0f7a4_32 rfl ?_
  refine SW.istore_n (q := 34) (i := 0) dJ6_bitCount_0f7a4_33 rfl (by decide) rfl ?_
  refine SW.iload_n (q := 35) (i := 0) dJ6_bitCount_0f7a4_34 rfl rfl rfl ?_
  refine SW.iload_n (q := 36) (i := 0) dJ6_bitCount_0f7a4_35 rfl rfl rfl ?_
  refine SW.bipush (q := 38) (v := 8) dJ6_bitCount_0f7a4_36 (by decide) rfl ?_
  refine SW.iushr (q := 39) dJ6_bitCount_0f7a4_38 rfl rfl ?_
  refine SW.iadd (q := 40) dJ6_bitCount_0f7a4_39 rfl ?_
  refine SW.istore_n (q := 41) (i := 0) dJ6_bitCount_0f7a4_40 rfl (by decide) rfl ?_
  refine SW.iload_n (q := 42) (i := 0) dJ6_bitCount_0f7a4_41 rfl rfl rfl ?_
  refine SW.iload_n (q := 43) (i := 0) dJ6_bitCount_0f7a4_42 rfl rfl rfl ?_
  refine SW.bipush (q := 45) (v := 16) dJ6_bitCount_0f7a4_43 (by decide) rfl ?_
  refine SW.iushr (q := 46) dJ6_bitCount_0f7a4_45 rfl rfl ?_
  refine SW.iadd (q := 47) dJ6_bitCount_0f7a4_46 rfl ?_
  refine SW.istore_n (q := 48) (i := 0) dJ6_bitCount_0f7a4_47 rfl (by decide) rfl ?_
  refine SW.iload_n (q := 49) (i := 0) dJ6_bitCount_0f7a4_48 rfl rfl rfl ?_
  refine SW.bipush (q := 51) (v := 63) dJ6_bitCount_0f7a4_49 (by decide) rfl ?_
  refine SW.iand (q := 52) dJ6_bitCount_0f7a4_51 rfl ?_
  refine SW.iretR rfl rfl dJ6_bitCount_0f7a4_52 ?_
  refine ⟨rfl, ?_⟩
  unfold bc_ok
  obtain ⟨j, rfl⟩ : ∃ j : Fin 33, j.val = k := ⟨⟨k, by omega⟩, rfl⟩
  revert hk
  revert j
  decide +kernel
theorem C_X7_keepUpTo : sw_G X 1 mX7_keepUpTo [.ref (sw_ad X 0), .int x] σ (sw_up σ 0 8 (sw_min (σ 0 8) x)) := by
  refine sw_ME.ofF (by decide +kernel) rfl (Nat.le_of_ble_eq_true rfl) rfl ?_
  refine SW.aload_n (q := 1) (i := 0) dX7_keepUpTo_0 rfl rfl rfl ?_
  refine SW.aload_n (q := 2) (i := 0) dX7_keepUpTo_1 rfl rfl rfl ?_
  refine SW.getI (q := 5) (i := 0) fX7_64 rfl rfl dX7_keepUpTo_2 rfl ?_
  refine SW.iload_n (q := 6) (i := 1) dX7_keepUpTo_5 rfl rfl rfl ?_
  refine SW.sF (q := 9) (C_min) vX7_202 (by decide) rfl rfl (Nat.le_of_ble_eq_true rfl) dX7_keepUpTo_6 rfl ?_
  refine SW.putI (q := 12) (i := 0) pX7_64 rfl rfl dX7_keepUpTo_9 rfl ?_
  refine SW.vretR rfl dX7_keepUpTo_12 ?_
  rfl
theorem C_X7_stageAhead : sw_F X 0 mX7_stageAhead [.int x] σ (if x = 3 then 3 else if x = 2 then 2 else 1) σ := by
  refine sw_ME.ofF (by decide +kernel) rfl (Nat.le_of_ble_eq_true rfl) rfl ?_
  by_cases h3 : x = 3
  · refine SW.iload_n (q := 1) (i := 0) dX7_stageAhead_0 rfl rfl rfl ?_
    refine SW.iconst (q := 2) (v := 3) dX7_stageAhead_1 (by decide) rfl ?_
    refine SW.icmp_ne (q := 5) (tgt := 7) dX7_stageAhead_2 (by decide) rfl (fun c2 => absurd (h3) c2) (fun _ => ?_)
    refine SW.iconst (q := 6) (v := 3) dX7_stageAhead_5 (by decide) rfl ?_
    refine SW.iretR rfl rfl dX7_stageAhead_6 ?_
    exact ⟨by rw [if_pos h3], rfl⟩
  · by_cases h2 : x = 2
    · refine SW.iload_n (q := 1) (i := 0) dX7_stageAhead_0 rfl rfl rfl ?_
      refine SW.iconst (q := 2) (v := 3) dX7_stageAhead_1 (by decide) rfl ?_
      refine SW.icmp_ne (q := 5) (tgt := 7) dX7_stageAhead_2 (by decide) rfl (fun _ => ?_) (fun c2 => absurd c2 (h3))
      refine SW.iload_n (q := 8) (i := 0) dX7_stageAhead_7 rfl rfl rfl ?_
      refine SW.iconst (q := 9) (v := 2) dX7_stageAhead_8 (by decide) rfl ?_
      refine SW.icmp_ne (q := 12) (tgt := 16) dX7_stageAhead_9 (by decide) rfl (fun c9 => absurd (h2) c9) (fun _ => ?_)
      refine SW.iconst (q := 13) (v := 2) dX7_stageAhead_12 (by decide) rfl ?_
      refine SW.goto (q := 17) dX7_stageAhead_13 (by decide) ?_
      refine SW.iretR rfl rfl dX7_stageAhead_17 ?_
      exact ⟨by rw [if_neg h3, if_pos h2], rfl⟩
    · refine SW.iload_n (q := 1) (i := 0) dX7_stageAhead_0 rfl rfl rfl ?_
      refine SW.iconst (q := 2) (v := 3) dX7_stageAhead_1 (by decide) rfl ?_
      refine SW.icmp_ne (q := 5) (tgt := 7) dX7_stageAhead_2 (by decide) rfl (fun _ => ?_) (fun c2 => absurd c2 (h3))
      refine SW.iload_n (q := 8) (i := 0) dX7_stageAhead_7 rfl rfl rfl ?_
      refine SW.iconst (q := 9) (v := 2) dX7_stageAhead_8 (by decide) rfl ?_
      refine SW.icmp_ne (q := 12) (tgt := 16) dX7_stageAhead_9 (by decide) rfl (fun _ => ?_) (fun c9 => absurd c9 (h2))
      refine SW.iconst (q := 17) (v := 1) dX7_stageAhead_16 (by decide) rfl ?_
      refine SW.iretR rfl rfl dX7_stageAhead_17 ?_
      exact ⟨by rw [if_neg h3, if_neg h2], rfl⟩
theorem C_X7_isTown : sw_F X 1 mX7_isTown [.ref (sw_ad X 0), .int x] σ (sw_wi x 0 (σ 4 2 - 1)) σ := by
  refine sw_ME.ofF (by decide +kernel) rfl (Nat.le_of_ble_eq_true rfl) rfl ?_
  refine SW.iload_n (q := 1) (i := 1) dX7_isTown_0 rfl rfl rfl ?_
  refine SW.iconst (q := 2) (v := 0) dX7_isTown_1 (by decide) rfl ?_
  refine SW.aload_n (q := 3) (i := 0) dX7_isTown_2 rfl rfl rfl ?_
  refine SW.getR (q := 6) (i := 0) (j := 4) fX7_33 rfl rfl dX7_isTown_3 rfl ?_
  refine SW.getI (q := 9) (i := 4) fX7_173 rfl rfl dX7_isTown_6 rfl ?_
  refine SW.iconst (q := 10) (v := 1) dX7_isTown_9 (by decide) rfl ?_
  refine SW.isub (q := 11) dX7_isTown_10 rfl ?_
  refine SW.sF (q := 14) (C_X7_within) vX7_82 (by decide) rfl rfl (Nat.le_of_ble_eq_true rfl) dX7_isTown_11 rfl ?_
  refine SW.iretR rfl (by unfold sw_wi; split <;> rfl) dX7_isTown_14 ?_
  exact ⟨rfl, rfl⟩
theorem C_X7_signsOf (hc : σ 4 2 = nI L.length) (hL : L.length ≤ 6) (hr : tw_row 53 L σ) (hq : ∀ t q : Nat, L[t]? = some q → q < 576) (hx : x = nI p) (hp : p < 576) :
    sw_F X 2 mX7_signsOf [.ref (sw_ad X 0), .int x] σ (sg_ (σ 48 p) (p ∈ L) (σ 55 p)) σ := by
  subst hx
  refine sw_ME.ofF (by decide +kernel) rfl (Nat.le_of_ble_eq_true rfl) rfl ?_
  have tail : ∀ v, v = (if p ∈ L then σ 48 p ||| 16 else σ 48 p) → SW X 2 mX7_signsOf sw_E0 (sw_Ri (fun r u => r = sg_ (σ 48 p) (p ∈ L) (σ 55 p) ∧ u = σ)) 28 [.ref (sw_ad X 0), .int (nI p), .int v] [] σ := by
    rintro v rfl
    by_cases ho : 0 < σ 55 p
    · refine SW.aload_n (q := 29) (i := 0) dX7_signsOf_28 rfl rfl rfl ?_
      refine SW.getR (q := 32) (i := 0) (j := 5) fX7_40 rfl rfl dX7_signsOf_29 rfl ?_
      refine SW.getR (q := 35) (i := 5) (j := 29) fX7_199 rfl rfl dX7_signsOf_32 rfl ?_
      refine SW.iload_n (q := 36) (i := 1) dX7_signsOf_35 rfl rfl rfl ?_
      refine SW.cF (q := 39) (C_X3_atn (i := 29) (j := 55) (n := 576) rfl rfl (k := p) rfl hp) vX7_119 (by decide) rfl rfl rfl rfl (Nat.le_of_ble_eq_true rfl) dX7_signsOf_36 rfl ?_
      refine SW.if_le (q := 42) (tgt := 47) dX7_signsOf_39 (by decide) rfl (fun c39 => absurd c39 ((Int32.not_le.mpr ho))) (fun _ => ?_)
      refine SW.iload_n (q := 43) (i := 2) dX7_signsOf_42 rfl rfl rfl ?_
      refine SW.bipush (q := 45) (v := 32) dX7_signsOf_43 (by decide) rfl ?_
      refine SW.ior (q := 46) dX7_signsOf_45 rfl ?_
      refine SW.istore_n (q := 47) (i := 2) dX7_signsOf_46 rfl (by decide) rfl ?_
      refine SW.iload_n (q := 48) (i := 2) dX7_signsOf_47 rfl rfl rfl ?_
      refine SW.iretR rfl rfl dX7_signsOf_48 ?_
      exact ⟨by unfold sg_; rw [if_pos ho], rfl⟩
    · refine SW.aload_n (q := 29) (i := 0) dX7_signsOf_28 rfl rfl rfl ?_
      refine SW.getR (q := 32) (i := 0) (j := 5) fX7_40 rfl rfl dX7_signsOf_29 rfl ?_
      refine SW.getR (q := 35) (i := 5) (j := 29) fX7_199 rfl rfl dX7_signsOf_32 rfl ?_
      refine SW.iload_n (q := 36) (i := 1) dX7_signsOf_35 rfl rfl rfl ?_
      refine SW.cF (q := 39) (C_X3_atn (i := 29) (j := 55) (n := 576) rfl rfl (k := p) rfl hp) vX7_119 (by decide) rfl rfl rfl rfl (Nat.le_of_ble_eq_true rfl) dX7_signsOf_36 rfl ?_
      refine SW.if_le (q := 42) (tgt := 47) dX7_signsOf_39 (by decide) rfl (fun _ => ?_) (fun c39 => absurd ((Int32.not_lt.mp ho)) c39)
      refine SW.iload_n (q := 48) (i := 2) dX7_signsOf_47 rfl rfl rfl ?_
      refine SW.iretR rfl rfl dX7_signsOf_48 ?_
      exact ⟨by unfold sg_; rw [if_neg ho], rfl⟩
  by_cases hm : p ∈ L
  · refine SW.aload_n (q := 1) (i := 0) dX7_signsOf_0 rfl rfl rfl ?_
    refine SW.getR (q := 4) (i := 0) (j := 2) fX7_19 rfl rfl dX7_signsOf_1 rfl ?_
    refine SW.getR (q := 7) (i := 2) (j := 22) fX7_232 rfl rfl dX7_signsOf_4 rfl ?_
    refine SW.iload_n (q := 8) (i := 1) dX7_signsOf_7 rfl rfl rfl ?_
    refine SW.cF (q := 11) (C_X3_atn (i := 22) (j := 48) (n := 576) rfl rfl (k := p) rfl hp) vX7_119 (by decide) rfl rfl rfl rfl (Nat.le_of_ble_eq_true rfl) dX7_signsOf_8 rfl ?_
    refine SW.istore_n (q := 12) (i := 2) dX7_signsOf_11 rfl (by decide) rfl ?_
    refine SW.aload_n (q := 13) (i := 0) dX7_signsOf_12 rfl rfl rfl ?_
    refine SW.getR (q := 16) (i := 0) (j := 4) fX7_33 rfl rfl dX7_signsOf_13 rfl ?_
    refine SW.iload_n (q := 17) (i := 1) dX7_signsOf_16 rfl rfl rfl ?_
    refine SW.cF (q := 20) (C_X4_isAt hc hL hr hq rfl hp) vX7_235 (by decide) rfl rfl rfl rfl (Nat.le_of_ble_eq_true rfl) dX7_signsOf_17 rfl ?_
    refine SW.if_eq (q := 23) (tgt := 28) dX7_signsOf_20 (by decide) rfl (fun c20 => absurd c20 ((by rw [decide_eq_true hm]; decide))) (fun _ => ?_)
    refine SW.iload_n (q := 24) (i := 2) dX7_signsOf_23 rfl rfl rfl ?_
    refine SW.bipush (q := 26) (v := 16) dX7_signsOf_24 (by decide) rfl ?_
    refine SW.ior (q := 27) dX7_signsOf_26 rfl ?_
    refine SW.istore_n (q := 28) (i := 2) dX7_signsOf_27 rfl (by decide) rfl ?_
    exact tail _ (by rw [if_pos hm])
  · refine SW.aload_n (q := 1) (i := 0) dX7_signsOf_0 rfl rfl rfl ?_
    refine SW.getR (q := 4) (i := 0) (j := 2) fX7_19 rfl rfl dX7_signsOf_1 rfl ?_
    refine SW.getR (q := 7) (i := 2) (j := 22) fX7_232 rfl rfl dX7_signsOf_4 rfl ?_
    refine SW.iload_n (q := 8) (i := 1) dX7_signsOf_7 rfl rfl rfl ?_
    refine SW.cF (q := 11) (C_X3_atn (i := 22) (j := 48) (n := 576) rfl rfl (k := p) rfl hp) vX7_119 (by decide) rfl rfl rfl rfl (Nat.le_of_ble_eq_true rfl) dX7_signsOf_8 rfl ?_
    refine SW.istore_n (q := 12) (i := 2) dX7_signsOf_11 rfl (by decide) rfl ?_
    refine SW.aload_n (q := 13) (i := 0) dX7_signsOf_12 rfl rfl rfl ?_
    refine SW.getR (q := 16) (i := 0) (j := 4) fX7_33 rfl rfl dX7_signsOf_13 rfl ?_
    refine SW.iload_n (q := 17) (i := 1) dX7_signsOf_16 rfl rfl rfl ?_
    refine SW.cF (q := 20) (C_X4_isAt hc hL hr hq rfl hp) vX7_235 (by decide) rfl rfl rfl rfl (Nat.le_of_ble_eq_true rfl) dX7_signsOf_17 rfl ?_
    refine SW.if_eq (q := 23) (tgt := 28) dX7_signsOf_20 (by decide) rfl (fun _ => ?_) (fun c20 => absurd ((by rw [decide_eq_false hm]; rfl)) c20)
    exact tail _ (by rw [if_neg hm])
theorem C_X7_lakes (hI : cI_ n a b c sea g br wn k σ) (hM : (M = k ∧ 2 ≤ k) ∨ (M = 2 ∧ k ≤ 2)) :
    sw_Mi X 6 mX7_lakes [.ref (sw_ad X 0)] σ (fun v u => fc_ σ u ∧ ce_ σ u ∧ cI_ n a b c sea g br wn M u ∧ v = u 3 3) := by
  refine sw_ME.ofF (by decide +kernel) rfl (Nat.le_of_ble_eq_true rfl) rfl ?_
  refine SW.aload_n (q := 1) (i := 0) dX7_lakes_0 rfl rfl rfl ?_
  refine SW.iconst (q := 2) (v := 2) dX7_lakes_1 (by decide) rfl ?_
  refine SW.cV (q := 5) (C_X7_makeUpTo (s := 2) hI rfl (by decide) hM) vX7_110 (by decide) rfl rfl rfl rfl (Nat.le_of_ble_eq_true rfl) dX7_lakes_2 rfl (fun u2 r2 => ?_)
  obtain ⟨g1, g2⟩ := r2
  refine SW.aload_n (q := 6) (i := 0) dX7_lakes_5 rfl rfl rfl ?_
  refine SW.getR (q := 9) (i := 0) (j := 3) fX7_26 rfl rfl dX7_lakes_6 rfl ?_
  refine SW.getI (q := 12) (i := 3) fX7_167 rfl rfl dX7_lakes_9 rfl ?_
  refine SW.iretR rfl rfl dX7_lakes_12 ?_
  exact ⟨fc_fr g1 (by decide), ce_fr g1 (by decide), g2, rfl⟩
theorem C_X7_lake (hI : cI_ n a b c sea g br wn k σ) :
    sw_Mi X 6 mX7_lake [.ref (sw_ad X 0), .int x] σ (fun v u => fc_ σ u ∧ ce_ σ u ∧ ∃ M, cI_ n a b c sea g br wn M u ∧ (¬ (0 ≤ x ∧ x < nI (n * n)) → v = -1) ∧ ∀ q, q < n * n → x = nI q → v = nI (lk_n (lk_c n (u 48) (u 41) q) (n * n)) ∧ cs_2 n a b c sea u) := by
  have n24 : n ≤ 24 := hI.1.1.2.1
  have h576 := gr_576 n24
  have epl : σ 1 2 = nI (n * n) := hI.1.1.2.2.2
  refine sw_ME.ofF (by decide +kernel) rfl (Nat.le_of_ble_eq_true rfl) rfl ?_
  by_cases hp : 0 ≤ x ∧ x < nI (n * n)
  · obtain ⟨q, hq, rfl⟩ := pl_in n24 hp
    obtain ⟨M, hM⟩ : ∃ M, (M = k ∧ 2 ≤ k) ∨ (M = 2 ∧ k ≤ 2) := by
      rcases Nat.lt_or_ge k 2 with z | z
      · exact ⟨2, Or.inr ⟨rfl, by omega⟩⟩
      · exact ⟨k, Or.inl ⟨rfl, z⟩⟩
    refine SW.aload_n (q := 1) (i := 0) dX7_lake_0 rfl rfl rfl ?_
    refine SW.getR (q := 4) (i := 0) (j := 1) fX7_12 rfl rfl dX7_lake_1 rfl ?_
    refine SW.iload_n (q := 5) (i := 1) dX7_lake_4 rfl rfl rfl ?_
    refine SW.cF (q := 8) (C_X5_hasPlace) vX7_103 (by decide) rfl rfl rfl rfl (Nat.le_of_ble_eq_true rfl) dX7_lake_5 rfl ?_
    refine SW.if_ne (q := 11) (tgt := 13) dX7_lake_8 (by decide) rfl (fun _ => ?_) (fun c8 => absurd c8 ((by rw [epl, decide_eq_true hp]; decide)))
    refine SW.aload_n (q := 14) (i := 0) dX7_lake_13 rfl rfl rfl ?_
    refine SW.iconst (q := 15) (v := 2) dX7_lake_14 (by decide) rfl ?_
    refine SW.cV (q := 18) (C_X7_makeUpTo (s := 2) hI rfl (by decide) hM) vX7_110 (by decide) rfl rfl rfl rfl (Nat.le_of_ble_eq_true rfl) dX7_lake_15 rfl (fun u15 r15 => ?_)
    obtain ⟨g1, g2⟩ := r15
    have c2 := g2.2.2.2.2.1 (by omega)
    refine SW.aload_n (q := 19) (i := 0) dX7_lake_18 rfl rfl rfl ?_
    refine SW.getR (q := 22) (i := 0) (j := 3) fX7_26 rfl rfl dX7_lake_19 rfl ?_
    refine SW.iload_n (q := 23) (i := 1) dX7_lake_22 rfl rfl rfl ?_
    refine SW.cF (q := 26) (C_X2_placesAt (n := n) (p := q) (kd := u15 48) (lv := u15 41) (by obtain ⟨_, _, _, z⟩ := c2; exact z) n24 rfl hq) vX7_170 (by decide) rfl rfl rfl rfl (Nat.le_of_ble_eq_true rfl) dX7_lake_23 rfl ?_
    refine SW.iretR rfl rfl dX7_lake_26 ?_
    exact ⟨fc_fr g1 (by decide), ce_fr g1 (by decide), M, g2, fun z => absurd hp z, fun q' hq' e => by rw [nI_eq (by omega) (by omega)] at e; subst e; exact ⟨rfl, c2⟩⟩
  · refine SW.aload_n (q := 1) (i := 0) dX7_lake_0 rfl rfl rfl ?_
    refine SW.getR (q := 4) (i := 0) (j := 1) fX7_12 rfl rfl dX7_lake_1 rfl ?_
    refine SW.iload_n (q := 5) (i := 1) dX7_lake_4 rfl rfl rfl ?_
    refine SW.cF (q := 8) (C_X5_hasPlace) vX7_103 (by decide) rfl rfl rfl rfl (Nat.le_of_ble_eq_true rfl) dX7_lake_5 rfl ?_
    refine SW.if_ne (q := 11) (tgt := 13) dX7_lake_8 (by decide) rfl (fun c8 => absurd ((by rw [epl, decide_eq_false hp]; rfl)) c8) (fun _ => ?_)
    refine SW.iconst (q := 12) (v := (-1)) dX7_lake_11 (by decide) rfl ?_
    refine SW.iretR rfl rfl dX7_lake_12 ?_
    refine ⟨fc_rf, ce_rf, k, hI, fun _ => rfl, fun q hq e => absurd ?_ hp⟩
    rw [e]; exact ⟨nI_pos' (by omega), Int32.not_le.mp (nI_ge hq (by omega))⟩

theorem C_X7_about (hI : cI_ n a b c sea g br wn k σ) :
    sw_Mi X 6 mX7_about [.ref (sw_ad X 0), .int x, .int what] σ (fun v u => fc_ σ u ∧ ce_ σ u ∧ ∃ M, cI_ n a b c sea g br wn M u ∧ (¬ (0 ≤ x ∧ x < nI (n * n)) → v = -1) ∧ ∀ q, q < n * n → x = nI q → v = av_ u q what ∧ 3 ≤ M) := by
  have n24 : n ≤ 24 := hI.1.1.2.1
  have h576 := gr_576 n24
  have epl : σ 1 2 = nI (n * n) := hI.1.1.2.2.2
  refine sw_ME.ofF (by decide +kernel) rfl (Nat.le_of_ble_eq_true rfl) rfl ?_
  by_cases hp : 0 ≤ x ∧ x < nI (n * n)
  · obtain ⟨q, hq, rfl⟩ := pl_in n24 hp
    obtain ⟨M, hM⟩ : ∃ M, (M = k ∧ 3 ≤ k) ∨ (M = 3 ∧ k ≤ 3) := by
      rcases Nat.lt_or_ge k 3 with z | z
      · exact ⟨3, Or.inr ⟨rfl, by omega⟩⟩
      · exact ⟨k, Or.inl ⟨rfl, z⟩⟩

    by_cases w0 : what = 0
    · refine SW.aload_n (q := 1) (i := 0) dX7_about_0 rfl rfl rfl ?_
      refine SW.getR (q := 4) (i := 0) (j := 1) fX7_12 rfl rfl dX7_about_1 rfl ?_
      refine SW.iload_n (q := 5) (i := 1) dX7_about_4 rfl rfl rfl ?_
      refine SW.cF (q := 8) (C_X5_hasPlace) vX7_103 (by decide) rfl rfl rfl rfl (Nat.le_of_ble_eq_true rfl) dX7_about_5 rfl ?_
      refine SW.if_ne (q := 11) (tgt := 13) dX7_about_8 (by decide) rfl (fun _ => ?_) (fun c8 => absurd c8 ((by rw [epl, decide_eq_true hp]; decide)))
      refine SW.aload_n (q := 14) (i := 0) dX7_about_13 rfl rfl rfl ?_
      refine SW.iconst (q := 15) (v := 3) dX7_about_14 (by decide) rfl ?_
      refine SW.cV (q := 18) (C_X7_makeUpTo (s := 3) hI rfl (by decide) hM) vX7_110 (by decide) rfl rfl rfl rfl (Nat.le_of_ble_eq_true rfl) dX7_about_15 rfl (fun u15 r15 => ?_)
      obtain ⟨g1, g2⟩ := r15
      refine SW.iload_n (q := 19) (i := 2) dX7_about_18 rfl rfl rfl ?_
      refine SW.tableK (q := 60) (k := 0) (off := 41) dX7_about_19 w0 (by decide) (by decide) rfl (by decide) ?_
      refine SW.aload_n (q := 61) (i := 0) dX7_about_60 rfl rfl rfl ?_
      refine SW.getR (q := 64) (i := 0) (j := 1) fX7_12 rfl rfl dX7_about_61 rfl ?_
      refine SW.getR (q := 67) (i := 1) (j := 14) fX7_138 rfl rfl dX7_about_64 rfl ?_
      refine SW.iload_n (q := 68) (i := 1) dX7_about_67 rfl rfl rfl ?_
      refine SW.cF (q := 71) (C_X3_atn (i := 14) (j := 40) (n := 576) rfl rfl (k := q) rfl (by omega)) vX7_119 (by decide) rfl rfl rfl rfl (Nat.le_of_ble_eq_true rfl) dX7_about_68 rfl ?_
      refine SW.iretR rfl rfl dX7_about_71 ?_
      exact ⟨fc_fr g1 (by decide), ce_fr g1 (by decide), M, g2, fun z => absurd hp z, fun q' hq' e => by rw [nI_eq (by omega) (by omega)] at e; subst e; exact ⟨by rw [av_, if_pos w0], by omega⟩⟩
    by_cases w1 : what = 1
    · refine SW.aload_n (q := 1) (i := 0) dX7_about_0 rfl rfl rfl ?_
      refine SW.getR (q := 4) (i := 0) (j := 1) fX7_12 rfl rfl dX7_about_1 rfl ?_
      refine SW.iload_n (q := 5) (i := 1) dX7_about_4 rfl rfl rfl ?_
      refine SW.cF (q := 8) (C_X5_hasPlace) vX7_103 (by decide) rfl rfl rfl rfl (Nat.le_of_ble_eq_true rfl) dX7_about_5 rfl ?_
      refine SW.if_ne (q := 11) (tgt := 13) dX7_about_8 (by decide) rfl (fun _ => ?_) (fun c8 => absurd c8 ((by rw [epl, decide_eq_true hp]; decide)))
      refine SW.aload_n (q := 14) (i := 0) dX7_about_13 rfl rfl rfl ?_
      refine SW.iconst (q := 15) (v := 3) dX7_about_14 (by decide) rfl ?_
      refine SW.cV (q := 18) (C_X7_makeUpTo (s := 3) hI rfl (by decide) hM) vX7_110 (by decide) rfl rfl rfl rfl (Nat.le_of_ble_eq_true rfl) dX7_about_15 rfl (fun u15 r15 => ?_)
      obtain ⟨g1, g2⟩ := r15
      refine SW.iload_n (q := 19) (i := 2) dX7_about_18 rfl rfl rfl ?_
      refine SW.tableK (q := 72) (k := 1) (off := 53) dX7_about_19 w1 (by decide) (by decide) rfl (by decide) ?_
      refine SW.aload_n (q := 73) (i := 0) dX7_about_72 rfl rfl rfl ?_
      refine SW.getR (q := 76) (i := 0) (j := 2) fX7_19 rfl rfl dX7_about_73 rfl ?_
      refine SW.getR (q := 79) (i := 2) (j := 15) fX7_141 rfl rfl dX7_about_76 rfl ?_
      refine SW.iload_n (q := 80) (i := 1) dX7_about_79 rfl rfl rfl ?_
      refine SW.cF (q := 83) (C_X3_atn (i := 15) (j := 41) (n := 576) rfl rfl (k := q) rfl (by omega)) vX7_119 (by decide) rfl rfl rfl rfl (Nat.le_of_ble_eq_true rfl) dX7_about_80 rfl ?_
      refine SW.iretR rfl rfl dX7_about_83 ?_
      exact ⟨fc_fr g1 (by decide), ce_fr g1 (by decide), M, g2, fun z => absurd hp z, fun q' hq' e => by rw [nI_eq (by omega) (by omega)] at e; subst e; exact ⟨by rw [av_, if_neg w0, if_pos w1], by omega⟩⟩
    by_cases w2 : what = 2
    · refine SW.aload_n (q := 1) (i := 0) dX7_about_0 rfl rfl rfl ?_
      refine SW.getR (q := 4) (i := 0) (j := 1) fX7_12 rfl rfl dX7_about_1 rfl ?_
      refine SW.iload_n (q := 5) (i := 1) dX7_about_4 rfl rfl rfl ?_
      refine SW.cF (q := 8) (C_X5_hasPlace) vX7_103 (by decide) rfl rfl rfl rfl (Nat.le_of_ble_eq_true rfl) dX7_about_5 rfl ?_
      refine SW.if_ne (q := 11) (tgt := 13) dX7_about_8 (by decide) rfl (fun _ => ?_) (fun c8 => absurd c8 ((by rw [epl, decide_eq_true hp]; decide)))
      refine SW.aload_n (q := 14) (i := 0) dX7_about_13 rfl rfl rfl ?_
      refine SW.iconst (q := 15) (v := 3) dX7_about_14 (by decide) rfl ?_
      refine SW.cV (q := 18) (C_X7_makeUpTo (s := 3) hI rfl (by decide) hM) vX7_110 (by decide) rfl rfl rfl rfl (Nat.le_of_ble_eq_true rfl) dX7_about_15 rfl (fun u15 r15 => ?_)
      obtain ⟨g1, g2⟩ := r15
      refine SW.iload_n (q := 19) (i := 2) dX7_about_18 rfl rfl rfl ?_
      refine SW.tableK (q := 84) (k := 2) (off := 65) dX7_about_19 w2 (by decide) (by decide) rfl (by decide) ?_
      refine SW.aload_n (q := 85) (i := 0) dX7_about_84 rfl rfl rfl ?_
      refine SW.getR (q := 88) (i := 0) (j := 2) fX7_19 rfl rfl dX7_about_85 rfl ?_
      refine SW.getR (q := 91) (i := 2) (j := 16) fX7_144 rfl rfl dX7_about_88 rfl ?_
      refine SW.iload_n (q := 92) (i := 1) dX7_about_91 rfl rfl rfl ?_
      refine SW.cF (q := 95) (C_X3_atn (i := 16) (j := 42) (n := 576) rfl rfl (k := q) rfl (by omega)) vX7_119 (by decide) rfl rfl rfl rfl (Nat.le_of_ble_eq_true rfl) dX7_about_92 rfl ?_
      refine SW.iretR rfl rfl dX7_about_95 ?_
      exact ⟨fc_fr g1 (by decide), ce_fr g1 (by decide), M, g2, fun z => absurd hp z, fun q' hq' e => by rw [nI_eq (by omega) (by omega)] at e; subst e; exact ⟨by rw [av_, if_neg w0, if_neg w1, if_pos w2], by omega⟩⟩
    by_cases w3 : what = 3
    · refine SW.aload_n (q := 1) (i := 0) dX7_about_0 rfl rfl rfl ?_
      refine SW.getR (q := 4) (i := 0) (j := 1) fX7_12 rfl rfl dX7_about_1 rfl ?_
      refine SW.iload_n (q := 5) (i := 1) dX7_about_4 rfl rfl rfl ?_
      refine SW.cF (q := 8) (C_X5_hasPlace) vX7_103 (by decide) rfl rfl rfl rfl (Nat.le_of_ble_eq_true rfl) dX7_about_5 rfl ?_
      refine SW.if_ne (q := 11) (tgt := 13) dX7_about_8 (by decide) rfl (fun _ => ?_) (fun c8 => absurd c8 ((by rw [epl, decide_eq_true hp]; decide)))
      refine SW.aload_n (q := 14) (i := 0) dX7_about_13 rfl rfl rfl ?_
      refine SW.iconst (q := 15) (v := 3) dX7_about_14 (by decide) rfl ?_
      refine SW.cV (q := 18) (C_X7_makeUpTo (s := 3) hI rfl (by decide) hM) vX7_110 (by decide) rfl rfl rfl rfl (Nat.le_of_ble_eq_true rfl) dX7_about_15 rfl (fun u15 r15 => ?_)
      obtain ⟨g1, g2⟩ := r15
      refine SW.iload_n (q := 19) (i := 2) dX7_about_18 rfl rfl rfl ?_
      refine SW.tableK (q := 96) (k := 3) (off := 77) dX7_about_19 w3 (by decide) (by decide) rfl (by decide) ?_
      refine SW.aload_n (q := 97) (i := 0) dX7_about_96 rfl rfl rfl ?_
      refine SW.getR (q := 100) (i := 0) (j := 2) fX7_19 rfl rfl dX7_about_97 rfl ?_
      refine SW.getR (q := 103) (i := 2) (j := 17) fX7_147 rfl rfl dX7_about_100 rfl ?_
      refine SW.iload_n (q := 104) (i := 1) dX7_about_103 rfl rfl rfl ?_
      refine SW.cF (q := 107) (C_X3_atn (i := 17) (j := 43) (n := 576) rfl rfl (k := q) rfl (by omega)) vX7_119 (by decide) rfl rfl rfl rfl (Nat.le_of_ble_eq_true rfl) dX7_about_104 rfl ?_
      refine SW.iretR rfl rfl dX7_about_107 ?_
      exact ⟨fc_fr g1 (by decide), ce_fr g1 (by decide), M, g2, fun z => absurd hp z, fun q' hq' e => by rw [nI_eq (by omega) (by omega)] at e; subst e; exact ⟨by rw [av_, if_neg w0, if_neg w1, if_neg w2, if_pos w3], by omega⟩⟩
    by_cases w4 : what = 4
    · refine SW.aload_n (q := 1) (i := 0) dX7_about_0 rfl rfl rfl ?_
      refine SW.getR (q := 4) (i := 0) (j := 1) fX7_12 rfl rfl dX7_about_1 rfl ?_
      refine SW.iload_n (q := 5) (i := 1) dX7_about_4 rfl rfl rfl ?_
      refine SW.cF (q := 8) (C_X5_hasPlace) vX7_103 (by decide) rfl rfl rfl rfl (Nat.le_of_ble_eq_true rfl) dX7_about_5 rfl ?_
      refine SW.if_ne (q := 11) (tgt := 13) dX7_about_8 (by decide) rfl (fun _ => ?_) (fun c8 => absurd c8 ((by rw [epl, decide_eq_true hp]; decide)))
      refine SW.aload_n (q := 14) (i := 0) dX7_about_13 rfl rfl rfl ?_
      refine SW.iconst (q := 15) (v := 3) dX7_about_14 (by decide) rfl ?_
      refine SW.cV (q := 18) (C_X7_makeUpTo (s := 3) hI rfl (by decide) hM) vX7_110 (by decide) rfl rfl rfl rfl (Nat.le_of_ble_eq_true rfl) dX7_about_15 rfl (fun u15 r15 => ?_)
      obtain ⟨g1, g2⟩ := r15
      refine SW.iload_n (q := 19) (i := 2) dX7_about_18 rfl rfl rfl ?_
      refine SW.tableK (q := 108) (k := 4) (off := 89) dX7_about_19 w4 (by decide) (by decide) rfl (by decide) ?_
      refine SW.aload_n (q := 109) (i := 0) dX7_about_108 rfl rfl rfl ?_
      refine SW.getR (q := 112) (i := 0) (j := 2) fX7_19 rfl rfl dX7_about_109 rfl ?_
      refine SW.getR (q := 115) (i := 2) (j := 18) fX7_150 rfl rfl dX7_about_112 rfl ?_
      refine SW.iload_n (q := 116) (i := 1) dX7_about_115 rfl rfl rfl ?_
      refine SW.cF (q := 119) (C_X3_atn (i := 18) (j := 44) (n := 576) rfl rfl (k := q) rfl (by omega)) vX7_119 (by decide) rfl rfl rfl rfl (Nat.le_of_ble_eq_true rfl) dX7_about_116 rfl ?_
      refine SW.iretR rfl rfl dX7_about_119 ?_
      exact ⟨fc_fr g1 (by decide), ce_fr g1 (by decide), M, g2, fun z => absurd hp z, fun q' hq' e => by rw [nI_eq (by omega) (by omega)] at e; subst e; exact ⟨by rw [av_, if_neg w0, if_neg w1, if_neg w2, if_neg w3, if_pos w4], by omega⟩⟩
    by_cases w5 : what = 5
    · refine SW.aload_n (q := 1) (i := 0) dX7_about_0 rfl rfl rfl ?_
      refine SW.getR (q := 4) (i := 0) (j := 1) fX7_12 rfl rfl dX7_about_1 rfl ?_
      refine SW.iload_n (q := 5) (i := 1) dX7_about_4 rfl rfl rfl ?_
      refine SW.cF (q := 8) (C_X5_hasPlace) vX7_103 (by decide) rfl rfl rfl rfl (Nat.le_of_ble_eq_true rfl) dX7_about_5 rfl ?_
      refine SW.if_ne (q := 11) (tgt := 13) dX7_about_8 (by decide) rfl (fun _ => ?_) (fun c8 => absurd c8 ((by rw [epl, decide_eq_true hp]; decide)))
      refine SW.aload_n (q := 14) (i := 0) dX7_about_13 rfl rfl rfl ?_
      refine SW.iconst (q := 15) (v := 3) dX7_about_14 (by decide) rfl ?_
      refine SW.cV (q := 18) (C_X7_makeUpTo (s := 3) hI rfl (by decide) hM) vX7_110 (by decide) rfl rfl rfl rfl (Nat.le_of_ble_eq_true rfl) dX7_about_15 rfl (fun u15 r15 => ?_)
      obtain ⟨g1, g2⟩ := r15
      refine SW.iload_n (q := 19) (i := 2) dX7_about_18 rfl rfl rfl ?_
      refine SW.tableK (q := 120) (k := 5) (off := 101) dX7_about_19 w5 (by decide) (by decide) rfl (by decide) ?_
      refine SW.aload_n (q := 121) (i := 0) dX7_about_120 rfl rfl rfl ?_
      refine SW.getR (q := 124) (i := 0) (j := 2) fX7_19 rfl rfl dX7_about_121 rfl ?_
      refine SW.getR (q := 127) (i := 2) (j := 19) fX7_153 rfl rfl dX7_about_124 rfl ?_
      refine SW.iload_n (q := 128) (i := 1) dX7_about_127 rfl rfl rfl ?_
      refine SW.cF (q := 131) (C_X3_atn (i := 19) (j := 45) (n := 576) rfl rfl (k := q) rfl (by omega)) vX7_119 (by decide) rfl rfl rfl rfl (Nat.le_of_ble_eq_true rfl) dX7_about_128 rfl ?_
      refine SW.iretR rfl rfl dX7_about_131 ?_
      exact ⟨fc_fr g1 (by decide), ce_fr g1 (by decide), M, g2, fun z => absurd hp z, fun q' hq' e => by rw [nI_eq (by omega) (by omega)] at e; subst e; exact ⟨by rw [av_, if_neg w0, if_neg w1, if_neg w2, if_neg w3, if_neg w4, if_pos w5], by omega⟩⟩
    by_cases w6 : what = 6
    · refine SW.aload_n (q := 1) (i := 0) dX7_about_0 rfl rfl rfl ?_
      refine SW.getR (q := 4) (i := 0) (j := 1) fX7_12 rfl rfl dX7_about_1 rfl ?_
      refine SW.iload_n (q := 5) (i := 1) dX7_about_4 rfl rfl rfl ?_
      refine SW.cF (q := 8) (C_X5_hasPlace) vX7_103 (by decide) rfl rfl rfl rfl (Nat.le_of_ble_eq_true rfl) dX7_about_5 rfl ?_
      refine SW.if_ne (q := 11) (tgt := 13) dX7_about_8 (by decide) rfl (fun _ => ?_) (fun c8 => absurd c8 ((by rw [epl, decide_eq_true hp]; decide)))
      refine SW.aload_n (q := 14) (i := 0) dX7_about_13 rfl rfl rfl ?_
      refine SW.iconst (q := 15) (v := 3) dX7_about_14 (by decide) rfl ?_
      refine SW.cV (q := 18) (C_X7_makeUpTo (s := 3) hI rfl (by decide) hM) vX7_110 (by decide) rfl rfl rfl rfl (Nat.le_of_ble_eq_true rfl) dX7_about_15 rfl (fun u15 r15 => ?_)
      obtain ⟨g1, g2⟩ := r15
      refine SW.iload_n (q := 19) (i := 2) dX7_about_18 rfl rfl rfl ?_
      refine SW.tableK (q := 132) (k := 6) (off := 113) dX7_about_19 w6 (by decide) (by decide) rfl (by decide) ?_
      refine SW.aload_n (q := 133) (i := 0) dX7_about_132 rfl rfl rfl ?_
      refine SW.getR (q := 136) (i := 0) (j := 4) fX7_33 rfl rfl dX7_about_133 rfl ?_
      refine SW.getR (q := 139) (i := 4) (j := 26) fX7_156 rfl rfl dX7_about_136 rfl ?_
      refine SW.iload_n (q := 140) (i := 1) dX7_about_139 rfl rfl rfl ?_
      refine SW.cF (q := 143) (C_X3_atn (i := 26) (j := 52) (n := 576) rfl rfl (k := q) rfl (by omega)) vX7_119 (by decide) rfl rfl rfl rfl (Nat.le_of_ble_eq_true rfl) dX7_about_140 rfl ?_
      refine SW.iretR rfl rfl dX7_about_143 ?_
      exact ⟨fc_fr g1 (by decide), ce_fr g1 (by decide), M, g2, fun z => absurd hp z, fun q' hq' e => by rw [nI_eq (by omega) (by omega)] at e; subst e; exact ⟨by rw [av_, if_neg w0, if_neg w1, if_neg w2, if_neg w3, if_neg w4, if_neg w5, if_pos w6], by omega⟩⟩
    refine SW.aload_n (q := 1) (i := 0) dX7_about_0 rfl rfl rfl ?_
    refine SW.getR (q := 4) (i := 0) (j := 1) fX7_12 rfl rfl dX7_about_1 rfl ?_
    refine SW.iload_n (q := 5) (i := 1) dX7_about_4 rfl rfl rfl ?_
    refine SW.cF (q := 8) (C_X5_hasPlace) vX7_103 (by decide) rfl rfl rfl rfl (Nat.le_of_ble_eq_true rfl) dX7_about_5 rfl ?_
    refine SW.if_ne (q := 11) (tgt := 13) dX7_about_8 (by decide) rfl (fun _ => ?_) (fun c8 => absurd c8 ((by rw [epl, decide_eq_true hp]; decide)))
    refine SW.aload_n (q := 14) (i := 0) dX7_about_13 rfl rfl rfl ?_
    refine SW.iconst (q := 15) (v := 3) dX7_about_14 (by decide) rfl ?_
    refine SW.cV (q := 18) (C_X7_makeUpTo (s := 3) hI rfl (by decide) hM) vX7_110 (by decide) rfl rfl rfl rfl (Nat.le_of_ble_eq_true rfl) dX7_about_15 rfl (fun u15 r15 => ?_)
    obtain ⟨g1, g2⟩ := r15
    refine SW.iload_n (q := 19) (i := 2) dX7_about_18 rfl rfl rfl ?_
    refine SW.tableOut (q := 144) dX7_about_19 ((sw_out 0 6 (by decide) (by decide) (fun k h1 h2 => by rcases (show k = 0 ∨ k = 1 ∨ k = 2 ∨ k = 3 ∨ k = 4 ∨ k = 5 ∨ k = 6 by omega) with rfl | rfl | rfl | rfl | rfl | rfl | rfl <;> assumption))) (by decide) ?_
    refine SW.bipush (q := 146) (v := (-2)) dX7_about_144 (by decide) rfl ?_
    refine SW.iretR rfl rfl dX7_about_146 ?_
    exact ⟨fc_fr g1 (by decide), ce_fr g1 (by decide), M, g2, fun z => absurd hp z, fun q' hq' e => by rw [nI_eq (by omega) (by omega)] at e; subst e; exact ⟨by rw [av_, if_neg w0, if_neg w1, if_neg w2, if_neg w3, if_neg w4, if_neg w5, if_neg w6], by omega⟩⟩
  · refine SW.aload_n (q := 1) (i := 0) dX7_about_0 rfl rfl rfl ?_
    refine SW.getR (q := 4) (i := 0) (j := 1) fX7_12 rfl rfl dX7_about_1 rfl ?_
    refine SW.iload_n (q := 5) (i := 1) dX7_about_4 rfl rfl rfl ?_
    refine SW.cF (q := 8) (C_X5_hasPlace) vX7_103 (by decide) rfl rfl rfl rfl (Nat.le_of_ble_eq_true rfl) dX7_about_5 rfl ?_
    refine SW.if_ne (q := 11) (tgt := 13) dX7_about_8 (by decide) rfl (fun c8 => absurd ((by rw [epl, decide_eq_false hp]; rfl)) c8) (fun _ => ?_)
    refine SW.iconst (q := 12) (v := (-1)) dX7_about_11 (by decide) rfl ?_
    refine SW.iretR rfl rfl dX7_about_12 ?_
    refine ⟨fc_rf, ce_rf, k, hI, fun _ => rfl, fun q hq e => absurd ?_ hp⟩
    rw [e]; exact ⟨nI_pos' (by omega), Int32.not_le.mp (nI_ge hq (by omega))⟩
theorem C_X7_is (hI : cI_ n a b c sea g br wn k σ) :
    sw_Mi X 6 mX7_is [.ref (sw_ad X 0), .int x] σ (fun v u => fc_ σ u ∧ ce_ σ u ∧ ∃ M, cI_ n a b c sea g br wn M u ∧ (¬ (0 ≤ x ∧ x < nI (n * n)) → v = -1) ∧ ∀ q, q < n * n → x = nI q → v = sg_ (u 48 q) (q ∈ ct_L n g wn 40 48 43 u) (u 55 q) ∧ 4 ≤ M) := by
  have n24 : n ≤ 24 := hI.1.1.2.1
  have h576 := gr_576 n24
  have epl : σ 1 2 = nI (n * n) := hI.1.1.2.2.2
  refine sw_ME.ofF (by decide +kernel) rfl (Nat.le_of_ble_eq_true rfl) rfl ?_
  by_cases hp : 0 ≤ x ∧ x < nI (n * n)
  · obtain ⟨q, hq, rfl⟩ := pl_in n24 hp
    have hM : (4 = k ∧ 4 ≤ k) ∨ (4 = 4 ∧ k ≤ 4) := Or.inr ⟨rfl, hI.2.2.1⟩
    refine SW.aload_n (q := 1) (i := 0) dX7_is_0 rfl rfl rfl ?_
    refine SW.getR (q := 4) (i := 0) (j := 1) fX7_12 rfl rfl dX7_is_1 rfl ?_
    refine SW.iload_n (q := 5) (i := 1) dX7_is_4 rfl rfl rfl ?_
    refine SW.cF (q := 8) (C_X5_hasPlace) vX7_103 (by decide) rfl rfl rfl rfl (Nat.le_of_ble_eq_true rfl) dX7_is_5 rfl ?_
    refine SW.if_ne (q := 11) (tgt := 13) dX7_is_8 (by decide) rfl (fun _ => ?_) (fun c8 => absurd c8 ((by rw [epl, decide_eq_true hp]; decide)))
    refine SW.aload_n (q := 14) (i := 0) dX7_is_13 rfl rfl rfl ?_
    refine SW.iconst (q := 15) (v := 4) dX7_is_14 (by decide) rfl ?_
    refine SW.cV (q := 18) (C_X7_makeUpTo (s := 4) (M := 4) hI rfl (by decide) hM) vX7_110 (by decide) rfl rfl rfl rfl (Nat.le_of_ble_eq_true rfl) dX7_is_15 rfl (fun u15 r15 => ?_)
    obtain ⟨g1, g2⟩ := r15
    obtain ⟨c1, c2, c3⟩ := g2.2.2.2.2.2.1 (by omega)
    refine SW.aload_n (q := 19) (i := 0) dX7_is_18 rfl rfl rfl ?_
    refine SW.iload_n (q := 20) (i := 1) dX7_is_19 rfl rfl rfl ?_
    refine SW.cF (q := 23) (C_X7_signsOf (L := ct_L n g wn 40 48 43 u15) (p := q) c2 (Nat.le_trans ct_len g2.1.2.2.2.2.2) c3 (fun t z h => by have := (ct_ok.1 t z h).1; omega) rfl (by omega)) vX7_159 (by decide) rfl rfl rfl rfl (Nat.le_of_ble_eq_true rfl) dX7_is_20 rfl ?_
    refine SW.iretR rfl rfl dX7_is_23 ?_
    exact ⟨fc_fr g1 (by decide), ce_fr g1 (by decide), 4, g2, fun z => absurd hp z, fun q' hq' e => by rw [nI_eq (by omega) (by omega)] at e; subst e; exact ⟨rfl, by omega⟩⟩
  · refine SW.aload_n (q := 1) (i := 0) dX7_is_0 rfl rfl rfl ?_
    refine SW.getR (q := 4) (i := 0) (j := 1) fX7_12 rfl rfl dX7_is_1 rfl ?_
    refine SW.iload_n (q := 5) (i := 1) dX7_is_4 rfl rfl rfl ?_
    refine SW.cF (q := 8) (C_X5_hasPlace) vX7_103 (by decide) rfl rfl rfl rfl (Nat.le_of_ble_eq_true rfl) dX7_is_5 rfl ?_
    refine SW.if_ne (q := 11) (tgt := 13) dX7_is_8 (by decide) rfl (fun c8 => absurd ((by rw [epl, decide_eq_false hp]; rfl)) c8) (fun _ => ?_)
    refine SW.iconst (q := 12) (v := (-1)) dX7_is_11 (by decide) rfl ?_
    refine SW.iretR rfl rfl dX7_is_12 ?_
    refine ⟨fc_rf, ce_rf, k, hI, fun _ => rfl, fun q hq e => absurd ?_ hp⟩
    rw [e]; exact ⟨nI_pos' (by omega), Int32.not_le.mp (nI_ge hq (by omega))⟩
theorem C_X7_roads (hI : cI_ n a b c sea g br wn k σ) :
    sw_Mi X 6 mX7_roads [.ref (sw_ad X 0), .int x] σ (fun v u => fc_ σ u ∧ ce_ σ u ∧ ∃ M, cI_ n a b c sea g br wn M u ∧ (¬ (0 ≤ x ∧ x < nI (n * n)) → v = -1) ∧ ∀ q, q < n * n → x = nI q → v = u 55 q ∧ 4 ≤ M) := by
  have n24 : n ≤ 24 := hI.1.1.2.1
  have h576 := gr_576 n24
  have epl : σ 1 2 = nI (n * n) := hI.1.1.2.2.2
  refine sw_ME.ofF (by decide +kernel) rfl (Nat.le_of_ble_eq_true rfl) rfl ?_
  by_cases hp : 0 ≤ x ∧ x < nI (n * n)
  · obtain ⟨q, hq, rfl⟩ := pl_in n24 hp
    have hM : (4 = k ∧ 4 ≤ k) ∨ (4 = 4 ∧ k ≤ 4) := Or.inr ⟨rfl, hI.2.2.1⟩
    refine SW.aload_n (q := 1) (i := 0) dX7_roads_0 rfl rfl rfl ?_
    refine SW.getR (q := 4) (i := 0) (j := 1) fX7_12 rfl rfl dX7_roads_1 rfl ?_
    refine SW.iload_n (q := 5) (i := 1) dX7_roads_4 rfl rfl rfl ?_
    refine SW.cF (q := 8) (C_X5_hasPlace) vX7_103 (by decide) rfl rfl rfl rfl (Nat.le_of_ble_eq_true rfl) dX7_roads_5 rfl ?_
    refine SW.if_ne (q := 11) (tgt := 13) dX7_roads_8 (by decide) rfl (fun _ => ?_) (fun c8 => absurd c8 ((by rw [epl, decide_eq_true hp]; decide)))
    refine SW.aload_n (q := 14) (i := 0) dX7_roads_13 rfl rfl rfl ?_
    refine SW.iconst (q := 15) (v := 4) dX7_roads_14 (by decide) rfl ?_
    refine SW.cV (q := 18) (C_X7_makeUpTo (s := 4) (M := 4) hI rfl (by decide) hM) vX7_110 (by decide) rfl rfl rfl rfl (Nat.le_of_ble_eq_true rfl) dX7_roads_15 rfl (fun u15 r15 => ?_)
    obtain ⟨g1, g2⟩ := r15
    refine SW.aload_n (q := 19) (i := 0) dX7_roads_18 rfl rfl rfl ?_
    refine SW.getR (q := 22) (i := 0) (j := 5) fX7_40 rfl rfl dX7_roads_19 rfl ?_
    refine SW.getR (q := 25) (i := 5) (j := 29) fX7_199 rfl rfl dX7_roads_22 rfl ?_
    refine SW.iload_n (q := 26) (i := 1) dX7_roads_25 rfl rfl rfl ?_
    refine SW.cF (q := 29) (C_X3_atn (i := 29) (j := 55) (n := 576) rfl rfl (k := q) rfl (by omega)) vX7_119 (by decide) rfl rfl rfl rfl (Nat.le_of_ble_eq_true rfl) dX7_roads_26 rfl ?_
    refine SW.iretR rfl rfl dX7_roads_29 ?_
    exact ⟨fc_fr g1 (by decide), ce_fr g1 (by decide), 4, g2, fun z => absurd hp z, fun q' hq' e => by rw [nI_eq (by omega) (by omega)] at e; subst e; exact ⟨rfl, by omega⟩⟩
  · refine SW.aload_n (q := 1) (i := 0) dX7_roads_0 rfl rfl rfl ?_
    refine SW.getR (q := 4) (i := 0) (j := 1) fX7_12 rfl rfl dX7_roads_1 rfl ?_
    refine SW.iload_n (q := 5) (i := 1) dX7_roads_4 rfl rfl rfl ?_
    refine SW.cF (q := 8) (C_X5_hasPlace) vX7_103 (by decide) rfl rfl rfl rfl (Nat.le_of_ble_eq_true rfl) dX7_roads_5 rfl ?_
    refine SW.if_ne (q := 11) (tgt := 13) dX7_roads_8 (by decide) rfl (fun c8 => absurd ((by rw [epl, decide_eq_false hp]; rfl)) c8) (fun _ => ?_)
    refine SW.iconst (q := 12) (v := (-1)) dX7_roads_11 (by decide) rfl ?_
    refine SW.iretR rfl rfl dX7_roads_12 ?_
    refine ⟨fc_rf, ce_rf, k, hI, fun _ => rfl, fun q hq e => absurd ?_ hp⟩
    rw [e]; exact ⟨nI_pos' (by omega), Int32.not_le.mp (nI_ge hq (by omega))⟩
end CMETH
