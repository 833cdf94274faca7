/-! the leaves: the JDK's own, Row -/
theorem sw_out {x : Int32} (lo hi : Nat) (h1 : lo < 2 ^ 30) (h2 : hi < 2 ^ 30) (h : ∀ k : Nat, lo ≤ k → k ≤ hi → ¬ x = nI k) : x.toInt < (lo : Int) ∨ (hi : Int) < x.toInt := by
  apply Classical.byContradiction
  intro hn
  have h3 : (lo : Int) ≤ x.toInt ∧ x.toInt ≤ (hi : Int) := by omega
  have h4 : x.toInt = ((x.toInt.toNat : Nat) : Int) := by omega
  refine h x.toInt.toNat (by omega) (by omega) ?_
  apply Int32.toInt_inj.mp
  rw [nI_toInt (by omega)]
  exact h4
def sw_max (x y : Int32) : Int32 := if x < y then y else x
def sw_min (x y : Int32) : Int32 := if y < x then y else x
def sw_abs (x : Int32) : Int32 := if 0 ≤ x then x else -x
def sw_at (f : Nat → Int32) (n : Nat) (x : Int32) : Int32 := if x < 0 ∨ n ≤ x.toNatClampNeg then -6 else f x.toNatClampNeg
def sw_pt (σ : sw_Sg) (j n : Nat) (x v : Int32) : sw_Sg := if x < 0 ∨ n ≤ x.toNatClampNeg then σ else sw_up σ j x.toNatClampNeg v
theorem sw_lenle {x : Int32} {n : Nat} (h0 : ¬ x < 0) (hn : n < 2 ^ 31) : Int32.ofNat n ≤ x ↔ n ≤ x.toNatClampNeg := by
  obtain ⟨k, hk, rfl⟩ := nI_of h0
  rw [nI_clamp hk]
  exact nI_leI hn hk
section LEAF
variable {X : sw_X} {σ : sw_Sg} {i j n : Nat} {x y v : Int32}
theorem C_max : sw_F X 0 mJ9_max_7cf53 [.int x, .int y] σ (sw_max x y) σ := by
  refine sw_ME.ofF (by decide +kernel) rfl (Nat.le_of_ble_eq_true rfl) rfl ?_
  refine SW.iload_n (q := 1) (i := 0) dJ9_max_7cf53_0 rfl rfl rfl ?_
  refine SW.iload_n (q := 2) (i := 1) dJ9_max_7cf53_1 rfl rfl rfl ?_
  refine SW.icmp_lt (q := 5) (tgt := 9) dJ9_max_7cf53_2 (by decide) rfl (fun c2 => ?_) (fun c2 => ?_)
  · refine SW.iload_n (q := 10) (i := 1) dJ9_max_7cf53_9 rfl rfl rfl ?_
    exact SW.iretR rfl rfl dJ9_max_7cf53_10 (⟨by simp [sw_max, *], rfl⟩)
  · refine SW.iload_n (q := 6) (i := 0) dJ9_max_7cf53_5 rfl rfl rfl ?_
    refine SW.goto (q := 10) dJ9_max_7cf53_6 (by decide) ?_
    exact SW.iretR rfl rfl dJ9_max_7cf53_10 (⟨by simp [sw_max, *], rfl⟩)
theorem C_min : sw_F X 0 mJ9_min_7cf53 [.int x, .int y] σ (sw_min x y) σ := by
  refine sw_ME.ofF (by decide +kernel) rfl (Nat.le_of_ble_eq_true rfl) rfl ?_
  refine SW.iload_n (q := 1) (i := 0) dJ9_min_7cf53_0 rfl rfl rfl ?_
  refine SW.iload_n (q := 2) (i := 1) dJ9_min_7cf53_1 rfl rfl rfl ?_
  refine SW.icmp_gt (q := 5) (tgt := 9) dJ9_min_7cf53_2 (by decide) rfl (fun c2 => ?_) (fun c2 => ?_)
  · refine SW.iload_n (q := 10) (i := 1) dJ9_min_7cf53_9 rfl rfl rfl ?_
    exact SW.iretR rfl rfl dJ9_min_7cf53_10 (⟨by simp [sw_min, *], rfl⟩)
  · refine SW.iload_n (q := 6) (i := 0) dJ9_min_7cf53_5 rfl rfl rfl ?_
    refine SW.goto (q := 10) dJ9_min_7cf53_6 (by decide) ?_
    exact SW.iretR rfl rfl dJ9_min_7cf53_10 (⟨by simp [sw_min, *], rfl⟩)
theorem C_abs : sw_F X 0 mJ9_abs_0f7a4 [.int x] σ (sw_abs x) σ := by
  refine sw_ME.ofF (by decide +kernel) rfl (Nat.le_of_ble_eq_true rfl) rfl ?_
  refine SW.iload_n (q := 1) (i := 0) dJ9_abs_0f7a4_0 rfl rfl rfl ?_
  refine SW.if_ge (q := 4) (tgt := 9) dJ9_abs_0f7a4_1 (by decide) rfl (fun c1 => ?_) (fun c1 => ?_)
  · refine SW.iload_n (q := 10) (i := 0) dJ9_abs_0f7a4_9 rfl rfl rfl ?_
    exact SW.iretR rfl rfl dJ9_abs_0f7a4_10 (⟨by simp [sw_abs, *], rfl⟩)
  · refine SW.iload_n (q := 5) (i := 0) dJ9_abs_0f7a4_4 rfl rfl rfl ?_
    refine SW.ineg (q := 6) dJ9_abs_0f7a4_5 rfl ?_
    refine SW.goto (q := 10) dJ9_abs_0f7a4_6 (by decide) ?_
    exact SW.iretR rfl rfl dJ9_abs_0f7a4_10 (⟨by simp [sw_abs, *], rfl⟩)
theorem C_X3_at (h1 : sw_sh i = .inr (3, [some j])) (h2 : sw_sh j = .inl (false, n)) (h0 : 0 < n ∧ n < 2 ^ 31 := by decide) : sw_F X 0 mX3_at [.ref (sw_ad X i), .int x] σ (sw_at (σ j) n x) σ := by
  have hn := h0.2
  have h0 := h0.1
  refine sw_ME.ofF (by decide +kernel) rfl (Nat.le_of_ble_eq_true rfl) rfl ?_
  have no : ∀ (p1 : ¬ x < 0) (p2 : ¬ Int32.ofNat n ≤ x), ¬ (x < 0 ∨ n ≤ x.toNatClampNeg) := fun p1 p2 h => h.elim p1 (fun h => p2 ((sw_lenle p1 hn).mpr h))
  refine SW.iload_n (q := 1) (i := 1) dX3_at_0 rfl rfl rfl ?_
  refine SW.if_lt (q := 4) (tgt := 22) dX3_at_1 (by decide) rfl (fun c1 => ?_) (fun c1 => ?_)
  · refine SW.bipush (q := 24) (v := (-6)) dX3_at_22 (by decide) rfl ?_
    exact SW.iretR rfl rfl dX3_at_24 (⟨by first | (rw [sw_at, if_neg (no c1 c10)]; done) | simp_all [sw_at, sw_lenle], rfl⟩)
  · refine SW.iload_n (q := 5) (i := 1) dX3_at_4 rfl rfl rfl ?_
    refine SW.aload_n (q := 6) (i := 0) dX3_at_5 rfl rfl rfl ?_
    refine SW.getR (q := 9) fX3_15 h1 rfl dX3_at_6 rfl ?_
    refine SW.alen (q := 10) h2 h0 rfl dX3_at_9 rfl ?_
    refine SW.icmp_ge (q := 13) (tgt := 22) dX3_at_10 (by decide) rfl (fun c10 => ?_) (fun c10 => ?_)
    · refine SW.bipush (q := 24) (v := (-6)) dX3_at_22 (by decide) rfl ?_
      exact SW.iretR rfl rfl dX3_at_24 (⟨by first | (rw [sw_at, if_neg (no c1 c10)]; done) | simp_all [sw_at, sw_lenle], rfl⟩)
    · refine SW.aload_n (q := 14) (i := 0) dX3_at_13 rfl rfl rfl ?_
      refine SW.getR (q := 17) fX3_15 h1 rfl dX3_at_14 rfl ?_
      refine SW.iload_n (q := 18) (i := 1) dX3_at_17 rfl rfl rfl ?_
      refine SW.iald (q := 19) h2 (by rw [vp_in]; simp_all [sw_lenle]) dX3_at_18 rfl ?_
      refine SW.goto (q := 24) dX3_at_19 (by decide) ?_
      exact SW.iretR rfl rfl dX3_at_24 (⟨by first | (rw [sw_at, if_neg (no c1 c10)]; done) | simp_all [sw_at, sw_lenle], rfl⟩)
theorem C_X3_put (h1 : sw_sh i = .inr (3, [some j])) (h2 : sw_sh j = .inl (false, n)) (h0 : 0 < n ∧ n < 2 ^ 31 := by decide) : sw_G X 0 mX3_put [.ref (sw_ad X i), .int x, .int v] σ (sw_pt σ j n x v) := by
  have hn := h0.2
  have h0 := h0.1
  refine sw_ME.ofF (by decide +kernel) rfl (Nat.le_of_ble_eq_true rfl) rfl ?_
  have no : ∀ (p1 : ¬ x < 0) (p2 : ¬ Int32.ofNat n ≤ x), ¬ (x < 0 ∨ n ≤ x.toNatClampNeg) := fun p1 p2 h => h.elim p1 (fun h => p2 ((sw_lenle p1 hn).mpr h))
  refine SW.iload_n (q := 1) (i := 1) dX3_put_0 rfl rfl rfl ?_
  refine SW.if_lt (q := 4) (tgt := 20) dX3_put_1 (by decide) rfl (fun c1 => ?_) (fun c1 => ?_)
  · exact SW.vretR rfl dX3_put_20 (by first | (rw [sw_pt, if_neg (no c1 c10)]; done) | simp_all [sw_pt, sw_lenle])
  · refine SW.iload_n (q := 5) (i := 1) dX3_put_4 rfl rfl rfl ?_
    refine SW.aload_n (q := 6) (i := 0) dX3_put_5 rfl rfl rfl ?_
    refine SW.getR (q := 9) fX3_15 h1 rfl dX3_put_6 rfl ?_
    refine SW.alen (q := 10) h2 h0 rfl dX3_put_9 rfl ?_
    refine SW.icmp_ge (q := 13) (tgt := 20) dX3_put_10 (by decide) rfl (fun c10 => ?_) (fun c10 => ?_)
    · exact SW.vretR rfl dX3_put_20 (by first | (rw [sw_pt, if_neg (no c1 c10)]; done) | simp_all [sw_pt, sw_lenle])
    · refine SW.aload_n (q := 14) (i := 0) dX3_put_13 rfl rfl rfl ?_
      refine SW.getR (q := 17) fX3_15 h1 rfl dX3_put_14 rfl ?_
      refine SW.iload_n (q := 18) (i := 1) dX3_put_17 rfl rfl rfl ?_
      refine SW.iload_n (q := 19) (i := 2) dX3_put_18 rfl rfl rfl ?_
      refine SW.iast (q := 20) h2 (by rw [vp_in]; simp_all [sw_lenle]) dX3_put_19 rfl ?_
      exact SW.vretR rfl dX3_put_20 (by first | (rw [sw_pt, if_neg (no c1 c10)]; done) | simp_all [sw_pt, sw_lenle])
theorem C_X3_add (h1 : sw_sh i = .inr (3, [some j])) (h2 : sw_sh j = .inl (false, n)) (h0 : 0 < n ∧ n < 2 ^ 31 := by decide) : sw_G X 1 mX3_add [.ref (sw_ad X i), .int x, .int v] σ (sw_pt σ j n x (sw_at (σ j) n x + v)) := by
  refine sw_ME.ofF (by decide +kernel) rfl (Nat.le_of_ble_eq_true rfl) rfl ?_
  refine SW.aload_n (q := 1) (i := 0) dX3_add_0 rfl rfl rfl ?_
  refine SW.iload_n (q := 2) (i := 1) dX3_add_1 rfl rfl rfl ?_
  refine SW.aload_n (q := 3) (i := 0) dX3_add_2 rfl rfl rfl ?_
  refine SW.iload_n (q := 4) (i := 1) dX3_add_3 rfl rfl rfl ?_
  refine SW.cF (q := 7) (C_X3_at h1 h2 h0) vX3_21 (by decide) h1 rfl rfl rfl (Nat.le_of_ble_eq_true rfl) dX3_add_4 rfl ?_
  refine SW.iload_n (q := 8) (i := 2) dX3_add_7 rfl rfl rfl ?_
  refine SW.iadd (q := 9) dX3_add_8 rfl ?_
  refine SW.cG (q := 12) (C_X3_put h1 h2 h0) vX3_25 (by decide) h1 rfl rfl rfl (Nat.le_of_ble_eq_true rfl) dX3_add_9 rfl ?_
  exact SW.vretR rfl dX3_add_12 (rfl)
end LEAF
