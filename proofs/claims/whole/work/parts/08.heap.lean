/-! the heap of keys: no key above its parent's; what is in it, as a set -/
theorem sw_un {σ : sw_Sg} {i k j : Nat} {v : Int32} (h : j ≠ i) : sw_up σ i k v j = σ j := sw_up_o j h
theorem i_le {x y : Int32} : x ≤ y ↔ x.toInt ≤ y.toInt := Int32.le_iff_toInt_le
theorem i_lt {x y : Int32} : x < y ↔ x.toInt < y.toInt := Int32.lt_iff_toInt_lt
def hp_ok (K : Nat → Int32) (c : Nat) : Prop := ∀ i, 0 < i → i < c → (K ((i - 1) / 2)).toInt ≤ (K i).toInt
def hp_in (K : Nat → Int32) (c : Nat) (z : Int32) : Prop := ∃ i, i < c ∧ K i = z
def hp_key (x y : Int32) : Int32 := x <<< ((10 : Int32) &&& 31) ||| (y &&& 1023)
theorem hp_min {K : Nat → Int32} {c : Nat} (h : hp_ok K c) : ∀ i, i < c → (K 0).toInt ≤ (K i).toInt := by
  intro i
  induction i using Nat.strongRecOn with
  | ind i ih =>
    intro hi
    rcases Nat.eq_zero_or_pos i with rfl | h0
    · exact Int.le_refl _
    · exact Int.le_trans (ih ((i - 1) / 2) (by omega) (by omega)) (h i h0 hi)
/-- a heap with a hole at h (h < c), into which key is to go: no higher than h -/
def hp_hole (K : Nat → Int32) (c h : Nat) (key : Int32) : Prop :=
  (∀ i, 0 < i → i < c → i ≠ h → (i - 1) / 2 ≠ h → (K ((i - 1) / 2)).toInt ≤ (K i).toInt) ∧
  (∀ i, 0 < i → i < c → (i - 1) / 2 = h → key.toInt ≤ (K i).toInt) ∧
  (∀ i, 0 < i → i < c → (i - 1) / 2 = h → 0 < h → (K ((h - 1) / 2)).toInt ≤ (K i).toInt)
def hp_holeIn (K : Nat → Int32) (c h : Nat) (z : Int32) : Prop := ∃ i, i < c ∧ i ≠ h ∧ K i = z
theorem hp_up {K : Nat → Int32} {c h : Nat} {key : Int32} (hh : hp_hole K c h key) (h0 : 0 < h) (hc : h < c) (hk : key.toInt < (K ((h - 1) / 2)).toInt) : hp_hole (upd K h (K ((h - 1) / 2))) c ((h - 1) / 2) key := by
  obtain ⟨h1, h2, h3⟩ := hh
  have hp : (h - 1) / 2 ≠ h := by omega
  refine ⟨fun i i0 ic n1 n2 => ?_, fun i i0 ic e => ?_, fun i i0 ic e p0 => ?_⟩
  · by_cases e1 : i = h
    · subst e1; exact absurd rfl n2
    · rw [upd_o e1]
      by_cases e2 : (i - 1) / 2 = h
      · rw [e2, upd_i]; exact h3 i i0 ic e2 h0
      · rw [upd_o e2]; exact h1 i i0 ic e1 e2
  · by_cases e1 : i = h
    · subst e1; rw [upd_i]; omega
    · rw [upd_o e1]
      have := h1 i i0 ic e1 (by omega)
      rw [e] at this
      omega
  · have q := h1 ((h - 1) / 2) p0 (by omega) hp (by omega)
    rw [upd_o (show ((h - 1) / 2 - 1) / 2 ≠ h by omega)]
    by_cases e1 : i = h
    · subst e1; rw [upd_i]; exact q
    · rw [upd_o e1]
      have := h1 i i0 ic e1 (by omega)
      rw [e] at this
      omega
theorem hp_upIn {K : Nat → Int32} {c h g : Nat} (hg : g ≠ h) (hc : h < c) (hgc : g < c) (z : Int32) : hp_holeIn (upd K h (K g)) c g z ↔ hp_holeIn K c h z := by
  constructor
  · rintro ⟨i, i1, i2, i3⟩
    by_cases e : i = h
    · subst e; rw [upd_i] at i3; exact ⟨g, hgc, hg, i3⟩
    · rw [upd_o e] at i3; exact ⟨i, i1, e, i3⟩
  · rintro ⟨i, i1, i2, i3⟩
    by_cases e : i = g
    · subst e; exact ⟨h, hc, fun q => hg q.symm, by rw [upd_i]; exact i3⟩
    · exact ⟨i, i1, e, by rw [upd_o i2]; exact i3⟩
theorem hp_end {K : Nat → Int32} {c h : Nat} {key : Int32} (hh : hp_hole K c h key) (hk : h = 0 ∨ (K ((h - 1) / 2)).toInt ≤ key.toInt) : hp_ok (upd K h key) c := by
  obtain ⟨h1, h2, h3⟩ := hh
  intro i i0 ic
  by_cases e1 : i = h
  · subst e1
    rw [upd_i, upd_o (by omega)]
    rcases hk with hk | hk
    · omega
    · exact hk
  · rw [upd_o e1]
    by_cases e2 : (i - 1) / 2 = h
    · rw [e2, upd_i]; exact h2 i i0 ic e2
    · rw [upd_o e2]; exact h1 i i0 ic e1 e2
theorem hp_endIn {K : Nat → Int32} {c h : Nat} {key : Int32} (hc : h < c) (z : Int32) : hp_in (upd K h key) c z ↔ hp_holeIn K c h z ∨ z = key := by
  constructor
  · rintro ⟨i, i1, i2⟩
    by_cases e : i = h
    · subst e; rw [upd_i] at i2; exact Or.inr i2.symm
    · rw [upd_o e] at i2; exact Or.inl ⟨i, i1, e, i2⟩
  · rintro (⟨i, i1, i2, i3⟩ | rfl)
    · exact ⟨i, i1, by rw [upd_o i2]; exact i3⟩
    · exact ⟨h, hc, upd_i⟩
/-- the hole seen from above: key is not below what stands over the hole -/
def hp_down (K : Nat → Int32) (c h : Nat) (key : Int32) : Prop :=
  (∀ i, 0 < i → i < c → i ≠ h → (i - 1) / 2 ≠ h → (K ((i - 1) / 2)).toInt ≤ (K i).toInt) ∧
  (0 < h → (K ((h - 1) / 2)).toInt ≤ key.toInt) ∧
  (∀ i, 0 < i → i < c → (i - 1) / 2 = h → 0 < h → (K ((h - 1) / 2)).toInt ≤ (K i).toInt)
theorem hp_dn {K : Nat → Int32} {c h g : Nat} {key : Int32} (hh : hp_down K c h key) (hg : (g - 1) / 2 = h) (g0 : 0 < g) (hc : g < c) (hm : ∀ i, 0 < i → i < c → (i - 1) / 2 = h → (K g).toInt ≤ (K i).toInt) (hk : (K g).toInt < key.toInt) : hp_down (upd K h (K g)) c g key := by
  obtain ⟨h1, h2, h3⟩ := hh
  have hgh : g ≠ h := by omega
  refine ⟨fun i i0 ic n1 n2 => ?_, fun _ => ?_, fun i i0 ic e _ => ?_⟩
  · by_cases e1 : i = h
    · subst e1
      rw [upd_i, upd_o (by omega)]
      exact h3 g g0 hc hg (by omega)
    · rw [upd_o e1]
      by_cases e2 : (i - 1) / 2 = h
      · rw [e2, upd_i]; exact hm i i0 ic e2
      · rw [upd_o e2]; exact h1 i i0 ic e1 e2
  · rw [hg, upd_i]; omega
  · rw [hg, upd_i, upd_o (by omega)]
    have := h1 i i0 ic (by omega) (by omega)
    rw [e] at this
    exact this
theorem hp_dend {K : Nat → Int32} {c h : Nat} {key : Int32} (hh : hp_down K c h key) (hk : ∀ i, 0 < i → i < c → (i - 1) / 2 = h → key.toInt ≤ (K i).toInt) : hp_ok (upd K h key) c := by
  obtain ⟨h1, h2, h3⟩ := hh
  refine hp_end ⟨h1, hk, h3⟩ ?_
  rcases Nat.eq_zero_or_pos h with h0 | h0
  · exact Or.inl h0
  · exact Or.inr (h2 h0)
theorem hp_par {h : Nat} (h0 : 0 < h) (hh : h < 2 ^ 31) : (nI h - 1) >>> ((1 : Int32) &&& 31) = nI ((h - 1) / 2) := by
  have e : nI h - 1 = nI (h - 1) := by
    have := nI_pred (h - 1)
    rwa [show h - 1 + 1 = h by omega] at this
  rw [e, pk_shrN (by omega) _ 1 (by decide)]
section HEAP
variable {X : sw_X} {σ : sw_Sg} {x y : Int32} {c : Nat}
theorem C_X0_empty : sw_G X 0 mX0_empty [.ref (sw_ad X 6)] σ (sw_up σ 6 1 0) := by
  refine sw_ME.ofF (by decide +kernel) rfl (Nat.le_of_ble_eq_true rfl) rfl ?_
  refine SW.aload_n (q := 1) (i := 0) dX0_empty_0 rfl rfl rfl ?_
  refine SW.iconst (q := 2) (v := 0) dX0_empty_1 (by decide) rfl ?_
  refine SW.putI (q := 5) (i := 6) pX0_20 rfl rfl dX0_empty_2 rfl ?_
  exact SW.vretR rfl dX0_empty_5 (rfl)
theorem C_X0_removedPlace : sw_F X 0 mX0_removedPlace [.ref (sw_ad X 6)] σ (σ 6 2 &&& 1023) σ := by
  refine sw_ME.ofF (by decide +kernel) rfl (Nat.le_of_ble_eq_true rfl) rfl ?_
  refine SW.aload_n (q := 1) (i := 0) dX0_removedPlace_0 rfl rfl rfl ?_
  refine SW.getI (q := 4) (i := 6) fX0_24 rfl rfl dX0_removedPlace_1 rfl ?_
  refine SW.sipush (q := 7) (v := 1023) dX0_removedPlace_4 (by decide) rfl ?_
  refine SW.iand (q := 8) dX0_removedPlace_7 rfl ?_
  exact SW.iretR rfl rfl dX0_removedPlace_8 (⟨rfl, rfl⟩)
theorem C_X0_removedRank : sw_F X 0 mX0_removedRank [.ref (sw_ad X 6)] σ (σ 6 2 >>> ((10 : Int32) &&& 31)) σ := by
  refine sw_ME.ofF (by decide +kernel) rfl (Nat.le_of_ble_eq_true rfl) rfl ?_
  refine SW.aload_n (q := 1) (i := 0) dX0_removedRank_0 rfl rfl rfl ?_
  refine SW.getI (q := 4) (i := 6) fX0_24 rfl rfl dX0_removedRank_1 rfl ?_
  refine SW.bipush (q := 6) (v := 10) dX0_removedRank_4 (by decide) rfl ?_
  refine SW.ishr (q := 7) dX0_removedRank_6 rfl ?_
  exact SW.iretR rfl rfl dX0_removedRank_7 (⟨rfl, rfl⟩)
theorem C_X0_insert (hc : σ 6 1 = nI c) (hlt : c < 2308) (hH : hp_ok (σ 58) c) : sw_Mv X 1 mX0_insert [.ref (sw_ad X 6), .int x, .int y] σ (fun u => fr_ [6, 58] σ u ∧ u 6 1 = nI (c + 1) ∧ hp_ok (u 58) (c + 1) ∧ ∀ z, hp_in (u 58) (c + 1) z ↔ hp_in (σ 58) c z ∨ z = hp_key x y) := by
  refine sw_ME.ofF (by decide +kernel) rfl (Nat.le_of_ble_eq_true rfl) rfl ?_
  have loop : ∀ (h : Nat) (τ : sw_Sg), h ≤ c → fr_ [6, 58] σ τ → τ 6 1 = nI (c + 1) → hp_hole (τ 58) (c + 1) h (hp_key x y) → (∀ z, hp_holeIn (τ 58) (c + 1) h z ↔ hp_in (σ 58) c z) →
      SW X 1 mX0_insert sw_E0 (sw_Rv (fun u => fr_ [6, 58] σ u ∧ u 6 1 = nI (c + 1) ∧ hp_ok (u 58) (c + 1) ∧ ∀ z, hp_in (u 58) (c + 1) z ↔ hp_in (σ 58) c z ∨ z = hp_key x y)) 38 [.ref (sw_ad X 6), .int x, .int y, .int (hp_key x y), .int (nI h)] [] τ := by
    intro h
    induction h using Nat.strongRecOn with
    | ind h ih =>
      intro τ hle hf hcnt hho hin
      have fin : (h = 0 ∨ (τ 58 ((h - 1) / 2)).toInt ≤ (hp_key x y).toInt) → (fun u => fr_ [6, 58] σ u ∧ u 6 1 = nI (c + 1) ∧ hp_ok (u 58) (c + 1) ∧ ∀ z, hp_in (u 58) (c + 1) z ↔ hp_in (σ 58) c z ∨ z = hp_key x y) (sw_up τ 58 h (hp_key x y)) := by
        intro hk
        refine ⟨fr_up hf (by decide), ?_, ?_, fun z => ?_⟩
        · rw [sw_un (by decide)]; exact hcnt
        · rw [sw_up_i]; exact hp_end hho hk
        · rw [sw_up_i, hp_endIn (by omega), hin]
      by_cases h0 : h = 0
      · subst h0
        refine SW.iload (q := 40) (i := 4) dX0_insert_38 rfl rfl ?_
        refine SW.if_le (q := 43) (tgt := 93) dX0_insert_40 (by decide) rfl (fun _ => ?_) (fun c40 => absurd ((Int32.le_refl _)) c40)
        refine SW.aload_n (q := 94) (i := 0) dX0_insert_93 rfl rfl rfl ?_
        refine SW.getR (q := 97) (i := 6) (j := 32) fX0_16 rfl rfl dX0_insert_94 rfl ?_
        refine SW.iload (q := 99) (i := 4) dX0_insert_97 rfl rfl ?_
        refine SW.iload_n (q := 100) (i := 3) dX0_insert_99 rfl rfl rfl ?_
        refine SW.cG (q := 103) (C_X3_putn (i := 32) (j := 58) (n := 2308) rfl rfl (k := 0) rfl (by omega)) vX0_31 (by decide) rfl rfl rfl rfl (Nat.le_of_ble_eq_true rfl) dX0_insert_100 rfl ?_
        refine SW.vretR rfl dX0_insert_103 ?_
        exact fin (Or.inl rfl)
      · refine SW.iload (q := 40) (i := 4) dX0_insert_38 rfl rfl ?_
        refine SW.if_le (q := 43) (tgt := 93) dX0_insert_40 (by decide) rfl (fun c40 => absurd c40 ((nI_nle (by omega) (by omega)))) (fun _ => ?_)
        refine SW.aload_n (q := 44) (i := 0) dX0_insert_43 rfl rfl rfl ?_
        refine SW.getR (q := 47) (i := 6) (j := 32) fX0_16 rfl rfl dX0_insert_44 rfl ?_
        refine SW.iload (q := 49) (i := 4) dX0_insert_47 rfl rfl ?_
        refine SW.iconst (q := 50) (v := 1) dX0_insert_49 (by decide) rfl ?_
        refine SW.isub (q := 51) dX0_insert_50 rfl ?_
        refine SW.iconst (q := 52) (v := 1) dX0_insert_51 (by decide) rfl ?_
        refine SW.ishr (q := 53) dX0_insert_52 rfl ?_
        refine SW.cF (q := 56) (C_X3_atn (i := 32) (j := 58) (n := 2308) rfl rfl (k := (h - 1) / 2) (hp_par (by omega) (by omega)) (by omega)) vX0_27 (by decide) rfl rfl rfl rfl (Nat.le_of_ble_eq_true rfl) dX0_insert_53 rfl ?_
        refine SW.iload_n (q := 57) (i := 3) dX0_insert_56 rfl rfl rfl ?_
        refine SW.icmp_le (q := 60) (tgt := 93) dX0_insert_57 (by decide) rfl (fun c57 => ?_) (fun c57 => ?_)
        · refine SW.aload_n (q := 94) (i := 0) dX0_insert_93 rfl rfl rfl ?_
          refine SW.getR (q := 97) (i := 6) (j := 32) fX0_16 rfl rfl dX0_insert_94 rfl ?_
          refine SW.iload (q := 99) (i := 4) dX0_insert_97 rfl rfl ?_
          refine SW.iload_n (q := 100) (i := 3) dX0_insert_99 rfl rfl rfl ?_
          refine SW.cG (q := 103) (C_X3_putn (i := 32) (j := 58) (n := 2308) rfl rfl (k := h) rfl (by omega)) vX0_31 (by decide) rfl rfl rfl rfl (Nat.le_of_ble_eq_true rfl) dX0_insert_100 rfl ?_
          refine SW.vretR rfl dX0_insert_103 ?_
          exact fin (Or.inr (i_le.mp c57))
        · refine SW.aload_n (q := 61) (i := 0) dX0_insert_60 rfl rfl rfl ?_
          refine SW.getR (q := 64) (i := 6) (j := 32) fX0_16 rfl rfl dX0_insert_61 rfl ?_
          refine SW.iload (q := 66) (i := 4) dX0_insert_64 rfl rfl ?_
          refine SW.aload_n (q := 67) (i := 0) dX0_insert_66 rfl rfl rfl ?_
          refine SW.getR (q := 70) (i := 6) (j := 32) fX0_16 rfl rfl dX0_insert_67 rfl ?_
          refine SW.iload (q := 72) (i := 4) dX0_insert_70 rfl rfl ?_
          refine SW.iconst (q := 73) (v := 1) dX0_insert_72 (by decide) rfl ?_
          refine SW.isub (q := 74) dX0_insert_73 rfl ?_
          refine SW.iconst (q := 75) (v := 1) dX0_insert_74 (by decide) rfl ?_
          refine SW.ishr (q := 76) dX0_insert_75 rfl ?_
          refine SW.cF (q := 79) (C_X3_atn (i := 32) (j := 58) (n := 2308) rfl rfl (k := (h - 1) / 2) (hp_par (by omega) (by omega)) (by omega)) vX0_27 (by decide) rfl rfl rfl rfl (Nat.le_of_ble_eq_true rfl) dX0_insert_76 rfl ?_
          refine SW.cG (q := 82) (C_X3_putn (i := 32) (j := 58) (n := 2308) rfl rfl (k := h) rfl (by omega)) vX0_31 (by decide) rfl rfl rfl rfl (Nat.le_of_ble_eq_true rfl) dX0_insert_79 rfl ?_
          refine SW.iload (q := 84) (i := 4) dX0_insert_82 rfl rfl ?_
          refine SW.iconst (q := 85) (v := 1) dX0_insert_84 (by decide) rfl ?_
          refine SW.isub (q := 86) dX0_insert_85 rfl ?_
          refine SW.iconst (q := 87) (v := 1) dX0_insert_86 (by decide) rfl ?_
          refine SW.ishr (q := 88) dX0_insert_87 rfl ?_
          refine SW.istore (q := 90) (i := 4) dX0_insert_88 (by decide) rfl ?_
          refine SW.goto (q := 38) dX0_insert_90 (by decide) ?_
          refine SW.eq (by rw [hp_par (by omega) (by omega)]; rfl) rfl rfl (ih ((h - 1) / 2) (by omega) (sw_up τ 58 h (τ 58 ((h - 1) / 2))) (by omega) (fr_up hf (by decide)) ?_ ?_ (fun z => ?_))
          · rw [sw_un (by decide)]; exact hcnt
          · rw [sw_up_i]; exact hp_up hho (by omega) (by omega) (by have := mt i_le.mpr c57; omega)
          · rw [sw_up_i, hp_upIn (by omega) (by omega) (by omega), hin]
  refine SW.aload_n (q := 1) (i := 0) dX0_insert_0 rfl rfl rfl ?_
  refine SW.getI (q := 4) (i := 6) fX0_20 rfl rfl dX0_insert_1 rfl ?_
  refine SW.sipush (q := 7) (v := 2308) dX0_insert_4 (by decide) rfl ?_
  refine SW.icmp_lt (q := 10) (tgt := 11) dX0_insert_7 (by decide) rfl (fun _ => ?_) (fun c7 => absurd ((by rw [hc]; exact nI_lt (b := 2308) hlt (by omega))) c7)
  refine SW.iload_n (q := 12) (i := 1) dX0_insert_11 rfl rfl rfl ?_
  refine SW.bipush (q := 14) (v := 10) dX0_insert_12 (by decide) rfl ?_
  refine SW.ishl (q := 15) dX0_insert_14 rfl ?_
  refine SW.iload_n (q := 16) (i := 2) dX0_insert_15 rfl rfl rfl ?_
  refine SW.sipush (q := 19) (v := 1023) dX0_insert_16 (by decide) rfl ?_
  refine SW.iand (q := 20) dX0_insert_19 rfl ?_
  refine SW.ior (q := 21) dX0_insert_20 rfl ?_
  refine SW.istore_n (q := 22) (i := 3) dX0_insert_21 rfl (by decide) rfl ?_
  refine SW.aload_n (q := 23) (i := 0) dX0_insert_22 rfl rfl rfl ?_
  refine SW.getI (q := 26) (i := 6) fX0_20 rfl rfl dX0_insert_23 rfl ?_
  refine SW.istore (q := 28) (i := 4) dX0_insert_26 (by decide) rfl ?_
  refine SW.aload_n (q := 29) (i := 0) dX0_insert_28 rfl rfl rfl ?_
  refine SW.dup (q := 30) dX0_insert_29 rfl rfl ?_
  refine SW.getI (q := 33) (i := 6) fX0_20 rfl rfl dX0_insert_30 rfl ?_
  refine SW.iconst (q := 34) (v := 1) dX0_insert_33 (by decide) rfl ?_
  refine SW.iadd (q := 35) dX0_insert_34 rfl ?_
  refine SW.putI (q := 38) (i := 6) pX0_20 rfl rfl dX0_insert_35 rfl ?_
  refine SW.eq (by rw [hc]; rfl) rfl rfl (loop c _ (Nat.le_refl _) (fr_up fr_rf (by decide)) ?_ ?_ (fun z => ?_))
  · rw [sw_up_i, upd_i, hc, nI_1]
  · rw [sw_un (by decide)]
    exact ⟨fun i i0 ic n1 _ => hH i i0 (by omega), fun i i0 ic e => by omega, fun i i0 ic e => by omega⟩
  · rw [sw_un (by decide)]
    exact ⟨fun ⟨i, i1, i2, i3⟩ => ⟨i, by omega, i3⟩, fun ⟨i, i1, i3⟩ => ⟨i, by omega, by omega, i3⟩⟩
end HEAP
