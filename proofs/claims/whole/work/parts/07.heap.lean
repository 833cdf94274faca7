/-! more leaves: rows at known places, fill; and the heap -/
def sw_row (σ : sw_Sg) (j : Nat) (f : Nat → Int32) : sw_Sg := va_up σ j f
theorem sw_row_i {σ : sw_Sg} {j : Nat} {f : Nat → Int32} : sw_row σ j f j = f := by simp [sw_row, va_up]
theorem sw_row_o {σ : sw_Sg} {j k : Nat} {f : Nat → Int32} (h : k ≠ j) : sw_row σ j f k = σ k := by simp [sw_row, va_up, h]
theorem sw_row_self {σ : sw_Sg} {j : Nat} : sw_row σ j (σ j) = σ := by
  funext k
  by_cases h : k = j
  · subst h; exact sw_row_i
  · exact sw_row_o h
theorem sw_up_row {σ : sw_Sg} {j k : Nat} {v : Int32} : sw_up σ j k v = sw_row σ j (upd (σ j) k v) := rfl
theorem sw_row_row {σ : sw_Sg} {j : Nat} {f g : Nat → Int32} : sw_row (sw_row σ j f) j g = sw_row σ j g := by
  funext k
  by_cases h : k = j
  · subst h; rw [sw_row_i, sw_row_i]
  · rw [sw_row_o h, sw_row_o h, sw_row_o h]
/-- all cells but these hold what they held -/
def fr_ (l : List Nat) (σ u : sw_Sg) : Prop := ∀ i, i ∉ l → u i = σ i
theorem fr_rf {l : List Nat} {σ : sw_Sg} : fr_ l σ σ := fun _ _ => rfl
theorem fr_up {l : List Nat} {σ u : sw_Sg} {i k : Nat} {v : Int32} (h : fr_ l σ u) (hi : i ∈ l) : fr_ l σ (sw_up u i k v) := fun j hj => (sw_up_o j (fun e => hj (e ▸ hi))).trans (h j hj)
theorem fr_tr {l l' : List Nat} {σ u w : sw_Sg} (h : fr_ l σ u) (h' : fr_ l' u w) (hs : ∀ i ∈ l', i ∈ l) : fr_ l σ w := fun j hj => (h' j (fun e => hj (hs j e))).trans (h j hj)
theorem fr_sub {l l' : List Nat} {σ u : sw_Sg} (h : fr_ l' σ u) (hs : ∀ i ∈ l', i ∈ l) : fr_ l σ u := fun j hj => h j (fun e => hj (hs j e))
theorem upd_i {f : Nat → Int32} {k : Nat} {v : Int32} : upd f k v k = v := by simp [upd]
theorem upd_o {f : Nat → Int32} {k j : Nat} {v : Int32} (h : j ≠ k) : upd f k v j = f j := by simp [upd, h]
theorem sw_at_n {f : Nat → Int32} {n k : Nat} (h : k < n) (hn : n < 2 ^ 31) : sw_at f n (nI k) = f k := by
  have hc : (nI k).toNatClampNeg = k := nI_clamp (by omega)
  rw [sw_at, hc, if_neg]
  rintro (h1 | h1)
  · exact nI_pos (by omega) h1
  · omega
theorem sw_pt_n {σ : sw_Sg} {j n k : Nat} {v : Int32} (h : k < n) (hn : n < 2 ^ 31) : sw_pt σ j n (nI k) v = sw_up σ j k v := by
  have hc : (nI k).toNatClampNeg = k := nI_clamp (by omega)
  rw [sw_pt, hc, if_neg]
  rintro (h1 | h1)
  · exact nI_pos (by omega) h1
  · omega
section ROWN
variable {X : sw_X} {σ : sw_Sg} {i j n k : Nat} {x v : Int32}
theorem C_X3_atn (h1 : sw_sh i = .inr (3, [some j])) (h2 : sw_sh j = .inl (false, n)) (hx : x = nI k) (hk : k < n) (h0 : 0 < n ∧ n < 2 ^ 31 := by decide) : sw_F X 0 mX3_at [.ref (sw_ad X i), .int x] σ (σ j k) σ := by
  subst hx
  rw [← sw_at_n (f := σ j) hk h0.2]
  exact C_X3_at h1 h2 h0
theorem C_X3_putn (h1 : sw_sh i = .inr (3, [some j])) (h2 : sw_sh j = .inl (false, n)) (hx : x = nI k) (hk : k < n) (h0 : 0 < n ∧ n < 2 ^ 31 := by decide) : sw_G X 0 mX3_put [.ref (sw_ad X i), .int x, .int v] σ (sw_up σ j k v) := by
  subst hx
  rw [← sw_pt_n hk h0.2]
  exact C_X3_put h1 h2 h0
theorem C_X3_addn (h1 : sw_sh i = .inr (3, [some j])) (h2 : sw_sh j = .inl (false, n)) (hx : x = nI k) (hk : k < n) (h0 : 0 < n ∧ n < 2 ^ 31 := by decide) : sw_G X 1 mX3_add [.ref (sw_ad X i), .int x, .int v] σ (sw_up σ j k (σ j k + v)) := by
  subst hx
  have h := C_X3_add (X := X) (σ := σ) (x := nI k) (v := v) h1 h2 h0
  rw [sw_pt_n hk h0.2, sw_at_n hk h0.2] at h
  exact h
theorem C_fill (h2 : sw_sh j = .inl (false, n)) (hn : 0 < n ∧ n < 2 ^ 31) : sw_G X 0 mJ7_fill_53178 [.ref (sw_ad X j), .int v] σ (sw_row σ j (fun k => if k < n then v else σ j k)) := by
  have h0 := hn.1
  refine sw_ME.ofF (by decide +kernel) rfl (Nat.le_of_ble_eq_true rfl) rfl ?_
  have loop : ∀ (m k : Nat), k + m = n → SW X 0 mJ7_fill_53178 sw_E0 (sw_Rv (fun u => u = sw_row σ j (fun k => if k < n then v else σ j k))) 5 [.ref (sw_ad X j), .int v, .int (nI k), .int (nI n)] [] (sw_row σ j (fun q => if q < k then v else σ j q)) := by
    intro m
    induction m with
    | zero =>
      intro k hk
      obtain rfl : k = n := by omega
      refine SW.iload_n (q := 6) (i := 2) dJ7_fill_53178_5 rfl rfl rfl ?_
      refine SW.iload_n (q := 7) (i := 3) dJ7_fill_53178_6 rfl rfl rfl ?_
      refine SW.icmp_ge (q := 10) (tgt := 20) dJ7_fill_53178_7 (by decide) rfl (fun _ => ?_) (fun c7 => absurd ((Int32.le_refl _)) c7)
      exact SW.vretR rfl dJ7_fill_53178_20 (rfl)
    | succ m ih =>
      intro k hk
      refine SW.iload_n (q := 6) (i := 2) dJ7_fill_53178_5 rfl rfl rfl ?_
      refine SW.iload_n (q := 7) (i := 3) dJ7_fill_53178_6 rfl rfl rfl ?_
      refine SW.icmp_ge (q := 10) (tgt := 20) dJ7_fill_53178_7 (by decide) rfl (fun c7 => absurd c7 ((nI_ge (by omega) hn.2))) (fun _ => ?_)
      refine SW.aload_n (q := 11) (i := 0) dJ7_fill_53178_10 rfl rfl rfl ?_
      refine SW.iload_n (q := 12) (i := 2) dJ7_fill_53178_11 rfl rfl rfl ?_
      refine SW.iload_n (q := 13) (i := 1) dJ7_fill_53178_12 rfl rfl rfl ?_
      refine SW.iast (q := 14) h2 (vp_in_nI (n := k) (by omega) hn.2) dJ7_fill_53178_13 rfl ?_
      refine SW.iinc (q := 17) (v := _ + 1) dJ7_fill_53178_14 rfl rfl (by decide) rfl ?_
      refine SW.goto (q := 5) dJ7_fill_53178_17 (by decide) ?_
      refine SW.eq (by rw [nI_1]; rfl) rfl ?_ (ih (k + 1) (by omega))
      rw [nI_clamp (by omega), sw_up_row, sw_row_row, sw_row_i]
      refine congrArg (sw_row σ j) (funext fun q => ?_)
      by_cases hq : q = k
      · subst hq; rw [upd_i, if_pos (by omega)]
      · rw [upd_o hq]; by_cases h5 : q < k
        · rw [if_pos h5, if_pos (by omega)]
        · rw [if_neg h5, if_neg (by omega)]
  refine SW.iconst (v := 0) dJ7_fill_53178_0 (by decide) rfl ?_
  refine SW.istore_n (i := 2) dJ7_fill_53178_1 rfl (by decide) rfl ?_
  refine SW.aload_n (i := 0) dJ7_fill_53178_2 rfl rfl rfl ?_
  refine SW.alen h2 h0 rfl dJ7_fill_53178_3 rfl ?_
  refine SW.istore_n (i := 3) dJ7_fill_53178_4 rfl (by decide) rfl ?_
  exact SW.eq rfl rfl (by simp [sw_row_self]) (loop n 0 (by omega))
theorem C_X3_fill (h1 : sw_sh i = .inr (3, [some j])) (h2 : sw_sh j = .inl (false, n)) (h0 : 0 < n ∧ n < 2 ^ 31 := by decide) : sw_G X 1 mX3_fill [.ref (sw_ad X i), .int v] σ (sw_row σ j (fun k => if k < n then v else σ j k)) := by
  refine sw_ME.ofF (by decide +kernel) rfl (Nat.le_of_ble_eq_true rfl) rfl ?_
  refine SW.aload_n (q := 1) (i := 0) dX3_fill_0 rfl rfl rfl ?_
  refine SW.getR (q := 4) fX3_15 h1 rfl dX3_fill_1 rfl ?_
  refine SW.iload_n (q := 5) (i := 1) dX3_fill_4 rfl rfl rfl ?_
  refine SW.sG (q := 8) (C_fill h2 h0) vX3_29 (by decide) rfl rfl (Nat.le_of_ble_eq_true rfl) dX3_fill_5 rfl ?_
  exact SW.vretR rfl dX3_fill_8 (rfl)
end ROWN
