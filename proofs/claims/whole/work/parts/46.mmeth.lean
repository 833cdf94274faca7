/-! the reference's own methods: what is asked -/
def fm_ (σ u : sw_Sg) : Prop := ∀ i, i < 59 → u i = σ i
def me_ (σ u : sw_Sg) : Prop := u 59 0 = σ 59 0 ∧ u 60 1 = σ 60 1 ∧ u 61 = σ 61 ∧ u 62 = σ 62 ∧ u 63 = σ 63
theorem fm_rf {σ : sw_Sg} : fm_ σ σ := fun _ _ => rfl
theorem me_rf {σ : sw_Sg} : me_ σ σ := ⟨rfl, rfl, rfl, rfl, rfl⟩
theorem fm_fr {l : List Nat} {σ u : sw_Sg} (hf : fr_ l σ u) (h : ∀ i ∈ l, 59 ≤ i) : fm_ σ u := fun i hi => hf i (fun z => absurd (h i z) (by omega))
theorem me_fr {l ks : List Nat} {σ u : sw_Sg} (hf : fr_ l σ u) (hs : fs_ ks σ u) (h : ∀ i ∈ [60, 61, 62, 63], i ∉ l) (h2 : 0 ∉ ks) : me_ σ u :=
  ⟨hs 0 h2, by rw [hf 60 (h 60 (by decide))], hf 61 (h 61 (by decide)), hf 62 (h 62 (by decide)), hf 63 (h 63 (by decide))⟩
theorem gr_dist_0 {n p : Nat} : gr_dist n p p = 0 := by
  have h : ∀ a, gr_abs a a = 0 := fun a => by unfold gr_abs; rw [if_pos (Nat.le_refl _)]; omega
  unfold gr_dist
  rw [h, h]
theorem sg_add {k o : Int32} {t : Prop} [Decidable t] (hk : k = 1 ∨ k = 2 ∨ k = 4 ∨ k = 8) : k + (if 0 < o then 32 else 0) + (if t then 16 else 0) = sg_ k t o := by
  unfold sg_
  rcases hk with rfl | rfl | rfl | rfl <;> by_cases h1 : 0 < o <;> by_cases h2 : t <;> simp only [if_pos, if_neg, h1, h2, if_true, if_false] <;> decide
theorem wk_in (ht sea lv fl st : Int32) : wk_ ht sea lv fl st = 1 ∨ wk_ ht sea lv fl st = 2 ∨ wk_ ht sea lv fl st = 4 ∨ wk_ ht sea lv fl st = 8 := by
  unfold wk_
  split
  · exact Or.inl rfl
  · split
    · exact Or.inr (Or.inl rfl)
    · split
      · exact Or.inr (Or.inr (Or.inl rfl))
      · exact Or.inr (Or.inr (Or.inr rfl))
section MMETH
variable {X : sw_X} {σ τ u : sw_Sg} {x y v w st what : Int32} {n a b c sea g br wn k s M p : Nat} {L : List Nat} {h T lv od : Nat → Nat} {D : Nat → Option Nat}
theorem C_X8_outletOf (n24 : n ≤ 24) (ok : wt_ok n h sea (n * n) T lv od D) (hd : ∀ p, p < n * n → σ 66 p = gr_v (D p)) (hx : x = nI p) (hp : p < n * n) :
    sw_Mi X 0 mX8_outletOf [.ref (sw_ad X 59), .int x] σ (fun v u => u = σ ∧ ∃ r, r < n * n ∧ v = nI r ∧ ∀ O : Nat → Nat, (∀ q, q < n * n → (D q = none → O q = q) ∧ ∀ r, D q = some r → O q = O r) → r = O p) := by
  subst hx
  have h576 := gr_576 n24
  have full : ∀ q, q < n * n → wt_tk T (n * n) q := fun q hq => by
    obtain ⟨i, i1, i2⟩ := wt_pig (n * n) T (fun i hi => (ok.1 i hi).1) (fun i j hi hj e => wt_inj ok.1 hi hj e) q hq
    exact ⟨i, i1, i2⟩
  refine sw_ME.ofF (by decide +kernel) rfl (Nat.le_of_ble_eq_true rfl) rfl ?_
  have loop : ∀ (K q : Nat), q < n * n → od q ≤ K → (∀ O : Nat → Nat, (∀ q, q < n * n → (D q = none → O q = q) ∧ ∀ r, D q = some r → O q = O r) → O q = O p) →
      SW X 0 mX8_outletOf sw_E0 (sw_Ri (fun v u => u = σ ∧ ∃ r, r < n * n ∧ v = nI r ∧ ∀ O : Nat → Nat, (∀ q, q < n * n → (D q = none → O q = q) ∧ ∀ r, D q = some r → O q = O r) → r = O p)) 2 [.ref (sw_ad X 59), .int (nI p), .int (nI q)] [] σ := by
    intro K
    induction K with
    | zero =>
      intro q hq hK hO
      cases e : D q with
      | none =>
        refine SW.aload_n (q := 3) (i := 0) dX8_outletOf_2 rfl rfl rfl ?_
        refine SW.getR (q := 6) (i := 59) (j := 66) fX8_32 rfl rfl dX8_outletOf_3 rfl ?_
        refine SW.iload_n (q := 7) (i := 2) dX8_outletOf_6 rfl rfl rfl ?_
        refine SW.ialdN (q := 8) (k := q) rfl (rfl) (by omega) (by decide) dX8_outletOf_7 rfl ?_
        refine SW.if_lt (q := 11) (tgt := 21) dX8_outletOf_8 (by decide) rfl (fun _ => ?_) (fun c8 => absurd ((by rw [hd q hq, e]; decide)) c8)
        refine SW.iload_n (q := 22) (i := 2) dX8_outletOf_21 rfl rfl rfl ?_
        refine SW.iretR rfl rfl dX8_outletOf_22 ?_
        exact ⟨rfl, q, hq, rfl, fun O h => by rw [← hO O h, (h q hq).1 e]⟩
      | some r =>
        have := (wt_D ok (full q hq) e).2.2.1
        omega
    | succ K ih =>
      intro q hq hK hO
      cases e : D q with
      | none =>
        refine SW.aload_n (q := 3) (i := 0) dX8_outletOf_2 rfl rfl rfl ?_
        refine SW.getR (q := 6) (i := 59) (j := 66) fX8_32 rfl rfl dX8_outletOf_3 rfl ?_
        refine SW.iload_n (q := 7) (i := 2) dX8_outletOf_6 rfl rfl rfl ?_
        refine SW.ialdN (q := 8) (k := q) rfl (rfl) (by omega) (by decide) dX8_outletOf_7 rfl ?_
        refine SW.if_lt (q := 11) (tgt := 21) dX8_outletOf_8 (by decide) rfl (fun _ => ?_) (fun c8 => absurd ((by rw [hd q hq, e]; decide)) c8)
        refine SW.iload_n (q := 22) (i := 2) dX8_outletOf_21 rfl rfl rfl ?_
        refine SW.iretR rfl rfl dX8_outletOf_22 ?_
        exact ⟨rfl, q, hq, rfl, fun O h => by rw [← hO O h, (h q hq).1 e]⟩
      | some r =>
        obtain ⟨-, r1, r2, -⟩ := wt_D ok (full q hq) e
        have er : σ 66 q = nI r := by rw [hd q hq, e]; rfl
        refine SW.aload_n (q := 3) (i := 0) dX8_outletOf_2 rfl rfl rfl ?_
        refine SW.getR (q := 6) (i := 59) (j := 66) fX8_32 rfl rfl dX8_outletOf_3 rfl ?_
        refine SW.iload_n (q := 7) (i := 2) dX8_outletOf_6 rfl rfl rfl ?_
        refine SW.ialdN (q := 8) (k := q) rfl (rfl) (by omega) (by decide) dX8_outletOf_7 rfl ?_
        refine SW.if_lt (q := 11) (tgt := 21) dX8_outletOf_8 (by decide) rfl (fun c8 => absurd c8 ((by rw [er]; exact nI_pos (by omega)))) (fun _ => ?_)
        refine SW.aload_n (q := 12) (i := 0) dX8_outletOf_11 rfl rfl rfl ?_
        refine SW.getR (q := 15) (i := 59) (j := 66) fX8_32 rfl rfl dX8_outletOf_12 rfl ?_
        refine SW.iload_n (q := 16) (i := 2) dX8_outletOf_15 rfl rfl rfl ?_
        refine SW.ialdN (q := 17) (k := q) rfl (rfl) (by omega) (by decide) dX8_outletOf_16 rfl ?_
        refine SW.istore_n (q := 18) (i := 2) dX8_outletOf_17 rfl (by decide) rfl ?_
        refine SW.goto (q := 2) dX8_outletOf_18 (by decide) ?_
        exact SW.eq (by rw [er]; rfl) rfl rfl (ih r r1 (by omega) (fun O h => by rw [← (h q hq).2 r e]; exact hO O h))
  refine SW.iload_n (q := 1) (i := 1) dX8_outletOf_0 rfl rfl rfl ?_
  refine SW.istore_n (q := 2) (i := 2) dX8_outletOf_1 rfl (by decide) rfl ?_
  exact loop (od p) p hp (Nat.le_refl _) (fun O _ => rfl)
theorem C_X8_isAll (hc : σ 59 19 = nI L.length) (hL : L.length ≤ 6) (hr : tw_row 71 L σ) (hq : ∀ t q : Nat, L[t]? = some q → q < 576) (hdis : ∀ i j q : Nat, i < j → L[i]? = some q → L[j]? = some q → False) (hk : σ 70 p = 1 ∨ σ 70 p = 2 ∨ σ 70 p = 4 ∨ σ 70 p = 8) (hx : x = nI p) (hp : p < 576) :
    sw_F X 0 mX8_isAll [.ref (sw_ad X 59), .int x] σ (sg_ (σ 70 p) (p ∈ L) (σ 74 p)) σ := by
  subst hx
  refine sw_ME.ofF (by decide +kernel) rfl (Nat.le_of_ble_eq_true rfl) rfl ?_
  have loop : ∀ (k t : Nat), t + k = L.length → SW X 0 mX8_isAll sw_E0 (sw_Ri (fun r u => r = sg_ (σ 70 p) (p ∈ L) (σ 74 p) ∧ u = σ)) 25 [.ref (sw_ad X 59), .int (nI p), .int (σ 70 p + (if 0 < σ 74 p then 32 else 0) + (if p ∈ L.take t then 16 else 0)), .int (nI t)] [] σ := by
    intro k
    induction k with
    | zero =>
      intro t ht
      obtain rfl : t = L.length := by omega
      refine SW.iload_n (q := 26) (i := 3) dX8_isAll_25 rfl rfl rfl ?_
      refine SW.aload_n (q := 27) (i := 0) dX8_isAll_26 rfl rfl rfl ?_
      refine SW.getI (q := 30) (i := 59) fX8_134 rfl rfl dX8_isAll_27 rfl ?_
      refine SW.icmp_ge (q := 33) (tgt := 58) dX8_isAll_30 (by decide) rfl (fun _ => ?_) (fun c30 => absurd ((by rw [hc]; exact Int32.le_refl _)) c30)
      refine SW.iload_n (q := 59) (i := 2) dX8_isAll_58 rfl rfl rfl ?_
      refine SW.iretR rfl rfl dX8_isAll_59 ?_
      exact ⟨by rw [← sg_add hk]; simp only [List.take_length], rfl⟩
    | succ k ih =>
      intro t ht
      obtain ⟨q, hqt⟩ := getD_some (L := L) (t := t) (by omega)
      have ql := hq t q hqt
      have tk : p ∈ L.take (t + 1) ↔ p ∈ L.take t ∨ p = q := by
        rw [List.take_succ, hqt]
        simp
      have nx := ih (t + 1) (by omega)
      by_cases e : q = p
      · subst e
        have n1 : ¬ q ∈ L.take t := by
          intro z
          obtain ⟨i, hi⟩ := List.getElem?_of_mem z
          have hil := (List.getElem?_eq_some_iff.mp hi).1
          rw [List.length_take] at hil
          rw [List.getElem?_take_of_lt (by omega)] at hi
          exact hdis i t q (by omega) hi hqt
        rw [if_pos (tk.mpr (Or.inr rfl))] at nx
        rw [if_neg n1, Int32.add_zero]
        refine SW.iload_n (q := 26) (i := 3) dX8_isAll_25 rfl rfl rfl ?_
        refine SW.aload_n (q := 27) (i := 0) dX8_isAll_26 rfl rfl rfl ?_
        refine SW.getI (q := 30) (i := 59) fX8_134 rfl rfl dX8_isAll_27 rfl ?_
        refine SW.icmp_ge (q := 33) (tgt := 58) dX8_isAll_30 (by decide) rfl (fun c30 => absurd c30 ((by rw [hc]; exact nI_ge (by omega) (by omega)))) (fun _ => ?_)
        refine SW.iload_n (q := 34) (i := 2) dX8_isAll_33 rfl rfl rfl ?_
        refine SW.aload_n (q := 35) (i := 0) dX8_isAll_34 rfl rfl rfl ?_
        refine SW.getR (q := 38) (i := 59) (j := 71) fX8_47 rfl rfl dX8_isAll_35 rfl ?_
        refine SW.iload_n (q := 39) (i := 3) dX8_isAll_38 rfl rfl rfl ?_
        refine SW.ialdN (q := 40) (k := t) rfl (rfl) (by omega) (by decide) dX8_isAll_39 rfl ?_
        refine SW.iload_n (q := 41) (i := 1) dX8_isAll_40 rfl rfl rfl ?_
        refine SW.icmp_ne (q := 44) (tgt := 49) dX8_isAll_41 (by decide) rfl (fun c41 => absurd ((hr t q hqt)) c41) (fun _ => ?_)
        refine SW.bipush (q := 46) (v := 16) dX8_isAll_44 (by decide) rfl ?_
        refine SW.goto (q := 50) dX8_isAll_46 (by decide) ?_
        refine SW.iadd (q := 51) dX8_isAll_50 rfl ?_
        refine SW.istore_n (q := 52) (i := 2) dX8_isAll_51 rfl (by decide) rfl ?_
        refine SW.iinc (q := 55) (v := _ + 1) dX8_isAll_52 rfl rfl (by decide) rfl ?_
        refine SW.goto (q := 25) dX8_isAll_55 (by decide) ?_
        exact SW.eq (by rw [nI_1]; rfl) rfl rfl nx
      · have n2 : (if p ∈ L.take (t + 1) then (16 : Int32) else 0) = (if p ∈ L.take t then 16 else 0) := by
          by_cases z : p ∈ L.take t
          · rw [if_pos z, if_pos (tk.mpr (Or.inl z))]
          · rw [if_neg z, if_neg (fun w => (tk.mp w).elim z (fun y => e y.symm))]
        rw [n2] at nx
        refine SW.iload_n (q := 26) (i := 3) dX8_isAll_25 rfl rfl rfl ?_
        refine SW.aload_n (q := 27) (i := 0) dX8_isAll_26 rfl rfl rfl ?_
        refine SW.getI (q := 30) (i := 59) fX8_134 rfl rfl dX8_isAll_27 rfl ?_
        refine SW.icmp_ge (q := 33) (tgt := 58) dX8_isAll_30 (by decide) rfl (fun c30 => absurd c30 ((by rw [hc]; exact nI_ge (by omega) (by omega)))) (fun _ => ?_)
        refine SW.iload_n (q := 34) (i := 2) dX8_isAll_33 rfl rfl rfl ?_
        refine SW.aload_n (q := 35) (i := 0) dX8_isAll_34 rfl rfl rfl ?_
        refine SW.getR (q := 38) (i := 59) (j := 71) fX8_47 rfl rfl dX8_isAll_35 rfl ?_
        refine SW.iload_n (q := 39) (i := 3) dX8_isAll_38 rfl rfl rfl ?_
        refine SW.ialdN (q := 40) (k := t) rfl (rfl) (by omega) (by decide) dX8_isAll_39 rfl ?_
        refine SW.iload_n (q := 41) (i := 1) dX8_isAll_40 rfl rfl rfl ?_
        refine SW.icmp_ne (q := 44) (tgt := 49) dX8_isAll_41 (by decide) rfl (fun _ => ?_) (fun c41 => absurd c41 ((by rw [hr t q hqt, nI_eq (by omega) (by omega)]; exact e)))
        refine SW.iconst (q := 50) (v := 0) dX8_isAll_49 (by decide) rfl ?_
        refine SW.iadd (q := 51) dX8_isAll_50 rfl ?_
        refine SW.istore_n (q := 52) (i := 2) dX8_isAll_51 rfl (by decide) rfl ?_
        refine SW.iinc (q := 55) (v := _ + 1) dX8_isAll_52 rfl rfl (by decide) rfl ?_
        refine SW.goto (q := 25) dX8_isAll_55 (by decide) ?_
        exact SW.eq (by rw [nI_1, Int32.add_zero]; rfl) rfl rfl nx
  have st : SW X 0 mX8_isAll sw_E0 (sw_Ri (fun r u => r = sg_ (σ 70 p) (p ∈ L) (σ 74 p) ∧ u = σ)) 25 [.ref (sw_ad X 59), .int (nI p), .int (σ 70 p + (if 0 < σ 74 p then 32 else 0)), .int 0] [] σ := by
    have := loop L.length 0 (by omega)
    rw [if_neg (show ¬ p ∈ L.take 0 by simp), Int32.add_zero] at this
    exact this
  by_cases ho : 0 < σ 74 p
  · rw [if_pos ho] at st
    refine SW.aload_n (q := 1) (i := 0) dX8_isAll_0 rfl rfl rfl ?_
    refine SW.getR (q := 4) (i := 59) (j := 70) fX8_44 rfl rfl dX8_isAll_1 rfl ?_
    refine SW.iload_n (q := 5) (i := 1) dX8_isAll_4 rfl rfl rfl ?_
    refine SW.ialdN (q := 6) (k := p) rfl (rfl) (by omega) (by decide) dX8_isAll_5 rfl ?_
    refine SW.aload_n (q := 7) (i := 0) dX8_isAll_6 rfl rfl rfl ?_
    refine SW.getR (q := 10) (i := 59) (j := 74) fX8_56 rfl rfl dX8_isAll_7 rfl ?_
    refine SW.iload_n (q := 11) (i := 1) dX8_isAll_10 rfl rfl rfl ?_
    refine SW.ialdN (q := 12) (k := p) rfl (rfl) (by omega) (by decide) dX8_isAll_11 rfl ?_
    refine SW.if_le (q := 15) (tgt := 20) dX8_isAll_12 (by decide) rfl (fun c12 => absurd c12 ((Int32.not_le.mpr ho))) (fun _ => ?_)
    refine SW.bipush (q := 17) (v := 32) dX8_isAll_15 (by decide) rfl ?_
    refine SW.goto (q := 21) dX8_isAll_17 (by decide) ?_
    refine SW.iadd (q := 22) dX8_isAll_21 rfl ?_
    refine SW.istore_n (q := 23) (i := 2) dX8_isAll_22 rfl (by decide) rfl ?_
    refine SW.iconst (q := 24) (v := 0) dX8_isAll_23 (by decide) rfl ?_
    refine SW.istore_n (q := 25) (i := 3) dX8_isAll_24 rfl (by decide) rfl ?_
    exact st
  · rw [if_neg ho] at st
    refine SW.aload_n (q := 1) (i := 0) dX8_isAll_0 rfl rfl rfl ?_
    refine SW.getR (q := 4) (i := 59) (j := 70) fX8_44 rfl rfl dX8_isAll_1 rfl ?_
    refine SW.iload_n (q := 5) (i := 1) dX8_isAll_4 rfl rfl rfl ?_
    refine SW.ialdN (q := 6) (k := p) rfl (rfl) (by omega) (by decide) dX8_isAll_5 rfl ?_
    refine SW.aload_n (q := 7) (i := 0) dX8_isAll_6 rfl rfl rfl ?_
    refine SW.getR (q := 10) (i := 59) (j := 74) fX8_56 rfl rfl dX8_isAll_7 rfl ?_
    refine SW.iload_n (q := 11) (i := 1) dX8_isAll_10 rfl rfl rfl ?_
    refine SW.ialdN (q := 12) (k := p) rfl (rfl) (by omega) (by decide) dX8_isAll_11 rfl ?_
    refine SW.if_le (q := 15) (tgt := 20) dX8_isAll_12 (by decide) rfl (fun _ => ?_) (fun c12 => absurd ((Int32.not_lt.mp ho)) c12)
    refine SW.iconst (q := 21) (v := 0) dX8_isAll_20 (by decide) rfl ?_
    refine SW.iadd (q := 22) dX8_isAll_21 rfl ?_
    refine SW.istore_n (q := 23) (i := 2) dX8_isAll_22 rfl (by decide) rfl ?_
    refine SW.iconst (q := 24) (v := 0) dX8_isAll_23 (by decide) rfl ?_
    refine SW.istore_n (q := 25) (i := 3) dX8_isAll_24 rfl (by decide) rfl ?_
    exact st
end MMETH
