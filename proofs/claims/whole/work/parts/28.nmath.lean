/-! COSTS, as mathematics: what the cheapest way costs; labels that are reached and closed are those costs -/
def nt_pass (kd : Nat → Int32) (p : Nat) : Prop := kd p = 4 ∨ kd p = 8
def nt_st (ht : Nat → Nat) (kd : Nat → Int32) (br p q : Nat) : Nat := 10 + gr_abs (ht p) (ht q) + (if kd p = 4 ∨ kd q = 4 then br else 0)
/-- from s to v over l steps at the cost c -/
def nt_w (n : Nat) (ht : Nat → Nat) (kd : Nat → Int32) (br s : Nat) : Nat → Nat → Nat → Prop
  | 0, v, c => v = s ∧ c = 0
  | l + 1, v, c => ∃ u c0, nt_w n ht kd br s l u c0 ∧ wl_adj n u v ∧ nt_pass kd v ∧ c = c0 + nt_st ht kd br u v
def nt_cl (n : Nat) (ht : Nat → Nat) (kd : Nat → Int32) (br : Nat) (d : Nat → Option Nat) (u : Nat) : Prop := ∀ c v, d u = some c → wl_adj n u v → nt_pass kd v → ∃ c', d v = some c' ∧ c' ≤ c + nt_st ht kd br u v
/-- the costs of all places from s -/
def nt_ok (n : Nat) (ht : Nat → Nat) (kd : Nat → Int32) (br s : Nat) (d : Nat → Option Nat) : Prop :=
  d s = some 0 ∧ (∀ v c, d v = some c → v < n * n ∧ c ≤ 510 * (n * n) ∧ ∃ l, nt_w n ht kd br s l v c) ∧ ∀ u, nt_cl n ht kd br d u
theorem nt_le {n br s : Nat} {ht : Nat → Nat} {kd : Nat → Int32} {d : Nat → Option Nat} (h : nt_ok n ht kd br s d) : ∀ l v c, nt_w n ht kd br s l v c → ∃ c', d v = some c' ∧ c' ≤ c := by
  intro l
  induction l with
  | zero => rintro v c ⟨rfl, rfl⟩; exact ⟨0, h.1, Nat.le_refl _⟩
  | succ l ih =>
    rintro v c ⟨u, c0, h1, h2, h3, rfl⟩
    obtain ⟨c1, e1, l1⟩ := ih u c0 h1
    obtain ⟨c2, e2, l2⟩ := h.2.2 u c1 v e1 h2 h3
    exact ⟨c2, e2, by omega⟩
theorem nt_one {n br s : Nat} {ht : Nat → Nat} {kd : Nat → Int32} {d d' : Nat → Option Nat} (h : nt_ok n ht kd br s d) (h' : nt_ok n ht kd br s d') : d = d' := by
  funext v
  cases e : d v with
  | none =>
    cases e' : d' v with
    | none => rfl
    | some c' =>
      obtain ⟨-, -, l, hl⟩ := h'.2.1 v c' e'
      obtain ⟨c, z, -⟩ := nt_le h l v c' hl
      rw [e] at z; cases z
  | some c =>
    obtain ⟨-, -, l, hl⟩ := h.2.1 v c e
    obtain ⟨c', z, hc⟩ := nt_le h' l v c hl
    obtain ⟨-, -, l', hl'⟩ := h'.2.1 v c' z
    obtain ⟨c2, z2, hc2⟩ := nt_le h l' v c' hl'
    rw [e] at z2; cases z2
    rw [z, show c = c' by omega]
theorem nt_w_congr {n br s : Nat} {ht ht' : Nat → Nat} {kd kd' : Nat → Int32} (hs : s < n * n) (h : ∀ p, p < n * n → ht p = ht' p ∧ kd p = kd' p) : ∀ l v c, nt_w n ht kd br s l v c → nt_w n ht' kd' br s l v c ∧ v < n * n := by
  intro l
  induction l with
  | zero => rintro v c ⟨rfl, rfl⟩; exact ⟨⟨rfl, rfl⟩, hs⟩
  | succ l ih =>
    rintro v c ⟨u, c0, h1, ⟨e, e4, ea⟩, h3, rfl⟩
    obtain ⟨a1, a2⟩ := ih u c0 h1
    have hv := (gr_nb_lt a2 ea).1
    obtain ⟨b1, b2⟩ := h u a2
    obtain ⟨c1, c2⟩ := h v hv
    refine ⟨⟨u, c0, a1, ⟨e, e4, ea⟩, ?_, ?_⟩, hv⟩
    · unfold nt_pass; rw [← c2]; exact h3
    · unfold nt_st; rw [b1, b2, c1, c2]
theorem nt_ok_congr {n br s : Nat} {ht ht' : Nat → Nat} {kd kd' : Nat → Int32} {d : Nat → Option Nat} (hs : s < n * n) (h : ∀ p, p < n * n → ht p = ht' p ∧ kd p = kd' p) (a : nt_ok n ht kd br s d) : nt_ok n ht' kd' br s d := by
  obtain ⟨a1, a2, a3⟩ := a
  refine ⟨a1, fun v c e => ?_, fun u c v e ha hp => ?_⟩
  · obtain ⟨b1, b2, l, b3⟩ := a2 v c e
    exact ⟨b1, b2, l, (nt_w_congr hs h l v c b3).1⟩
  · have hu := (a2 u c e).1
    obtain ⟨e0, e4, ea⟩ := ha
    have hv := (gr_nb_lt hu ea).1
    obtain ⟨b1, b2⟩ := h u hu
    obtain ⟨c1, c2⟩ := h v hv
    have := a3 u c v e ⟨e0, e4, ea⟩ (by unfold nt_pass at hp ⊢; rw [c2]; exact hp)
    unfold nt_st at this ⊢
    rw [← b1, ← b2, ← c1, ← c2]
    exact this
/-- on the way: S are done, none of them dearer than r, no other one cheaper; all labels are some way's, at most M -/
def nt_C (n : Nat) (ht : Nat → Nat) (kd : Nat → Int32) (br s : Nat) (S : Nat → Prop) (d : Nat → Option Nat) (r M : Nat) : Prop :=
  d s = some 0 ∧ (∀ v c, d v = some c → v < n * n ∧ c ≤ M ∧ ∃ l, nt_w n ht kd br s l v c) ∧ (∀ v, S v → ∃ c, d v = some c ∧ c ≤ r) ∧ ∀ v c, d v = some c → ¬ S v → r ≤ c
theorem nt_st_ge {ht : Nat → Nat} {kd : Nat → Int32} {br p q : Nat} : 10 ≤ nt_st ht kd br p q := by
  unfold nt_st; omega
theorem nt_st_le {ht : Nat → Nat} {kd : Nat → Int32} {br p q : Nat} (h1 : ht p ≤ 400) (h2 : ht q ≤ 400) (hb : br ≤ 100) : nt_st ht kd br p q ≤ 510 := by
  unfold nt_st gr_abs
  split <;> split <;> omega
/-- less or as much, and known wherever it was -/
def nt_dn (d d' : Nat → Option Nat) : Prop := ∀ v c, d v = some c → ∃ c', d' v = some c' ∧ c' ≤ c
theorem nt_dn.rf {d : Nat → Option Nat} : nt_dn d d := fun v c h => ⟨c, h, Nat.le_refl _⟩
theorem nt_cl.dn {n br u : Nat} {ht : Nat → Nat} {kd : Nat → Int32} {d d' : Nat → Option Nat} (h : nt_cl n ht kd br d u) (hd : nt_dn d d') (hu : d' u = d u) : nt_cl n ht kd br d' u := by
  intro c v e ha hp
  rw [hu] at e
  obtain ⟨c1, e1, l1⟩ := h c v e ha hp
  obtain ⟨c2, e2, l2⟩ := hd v c1 e1
  exact ⟨c2, e2, by omega⟩
/-- a step that betters a label -/
theorem nt_relax {n br s q v r M : Nat} {ht : Nat → Nat} {kd : Nat → Int32} {S : Nat → Prop} {d : Nat → Option Nat} (a : nt_C n ht kd br s S d r M) (hq : d q = some r) (ha : wl_adj n q v) (hp : nt_pass kd v) (hM : r + nt_st ht kd br q v ≤ M)
    (hb : ∀ c, d v = some c → r + nt_st ht kd br q v < c) :
    ¬ S v ∧ nt_C n ht kd br s S (va_up d v (some (r + nt_st ht kd br q v))) r M ∧ nt_dn d (va_up d v (some (r + nt_st ht kd br q v))) ∧ ∀ u, S u → va_up d v (some (r + nt_st ht kd br q v)) u = d u := by
  obtain ⟨a1, a2, a3, a4⟩ := a
  have h10 := nt_st_ge (ht := ht) (kd := kd) (br := br) (p := q) (q := v)
  have hS : ¬ S v := by
    intro hv
    obtain ⟨c, e, l⟩ := a3 v hv
    have := hb c e
    omega
  have hvs : v ≠ s := by
    rintro rfl
    have := hb 0 a1
    omega
  obtain ⟨q1, q2, l, q3⟩ := a2 q r hq
  obtain ⟨e0, e4, ea⟩ := ha
  have hv := (gr_nb_lt q1 ea).1
  refine ⟨hS, ⟨?_, fun w c e => ?_, fun w hw => ?_, fun w c e hw => ?_⟩, fun w c e => ?_, fun u hu => up_o (fun z => hS (by rw [← z]; exact hu))⟩
  · rw [up_o (Ne.symm hvs)]; exact a1
  · by_cases z : w = v
    · subst z
      rw [up_i] at e; cases e
      exact ⟨hv, hM, l + 1, q, r, q3, ⟨e0, e4, ea⟩, hp, rfl⟩
    · rw [up_o z] at e; exact a2 w c e
  · rw [up_o (fun z => hS (by rw [← z]; exact hw))]; exact a3 w hw
  · by_cases z : w = v
    · subst z; rw [up_i] at e; cases e; omega
    · rw [up_o z] at e; exact a4 w c e hw
  · by_cases z : w = v
    · subst z; rw [up_i]; exact ⟨_, rfl, Nat.le_of_lt (hb c e)⟩
    · rw [up_o z]; exact ⟨c, e, Nat.le_refl _⟩
section NSTEP
variable {X : sw_X} {σ : sw_Sg} {x y v w st : Int32} {n p q br : Nat} {ht : Nat → Nat}
theorem nt_st_e (hp : ht p ≤ 400) (hq : ht q ≤ 400) (kd : Nat → Int32) (z : Int32) (hz : z = (if kd p = 4 ∨ kd q = 4 then nI br else 0)) : (10 : Int32) + sw_abs (nI (ht p) - nI (ht q)) + z = nI (nt_st ht kd br p q) := by
  rw [gr_abs_e (by omega) (by omega), hz, show (10 : Int32) = nI 10 from rfl, nI_add]
  unfold nt_st
  split
  · rw [nI_add]
  · rw [Int32.add_zero]; rfl
theorem C_X1_stepCost (hx : x = nI p) (hy : y = nI q) (hp : p < 576) (hq : q < 576) (h1 : σ 40 p = nI (ht p) ∧ ht p ≤ 400) (h2 : σ 40 q = nI (ht q) ∧ ht q ≤ 400) (hb : σ 5 4 = nI br) :
    sw_F X 1 mX1_stepCost [.ref (sw_ad X 5), .ref (sw_ad X 1), .ref (sw_ad X 2), .int x, .int y] σ (nI (nt_st ht (σ 48) br p q)) σ := by
  subst hx; subst hy
  refine sw_ME.ofF (by decide +kernel) rfl (Nat.le_of_ble_eq_true rfl) rfl ?_
  by_cases k1 : σ 48 p = 4
  · refine SW.aload_n (q := 1) (i := 2) dX1_stepCost_0 rfl rfl rfl ?_
    refine SW.getR (q := 4) (i := 2) (j := 22) fX1_114 rfl rfl dX1_stepCost_1 rfl ?_
    refine SW.iload_n (q := 5) (i := 3) dX1_stepCost_4 rfl rfl rfl ?_
    refine SW.cF (q := 8) (C_X3_atn (i := 22) (j := 48) (n := 576) rfl rfl (k := p) rfl (by omega)) vX1_50 (by decide) rfl rfl rfl rfl (Nat.le_of_ble_eq_true rfl) dX1_stepCost_5 rfl ?_
    refine SW.iconst (q := 9) (v := 4) dX1_stepCost_8 (by decide) rfl ?_
    refine SW.icmp_eq (q := 12) (tgt := 25) dX1_stepCost_9 (by decide) rfl (fun _ => ?_) (fun c9 => absurd (k1) c9)
    refine SW.iconst (q := 26) (v := 1) dX1_stepCost_25 (by decide) rfl ?_
    refine SW.goto (q := 30) dX1_stepCost_26 (by decide) ?_
    refine SW.istore (q := 32) (i := 5) dX1_stepCost_30 (by decide) rfl ?_
    refine SW.bipush (q := 34) (v := 10) dX1_stepCost_32 (by decide) rfl ?_
    refine SW.aload_n (q := 35) (i := 1) dX1_stepCost_34 rfl rfl rfl ?_
    refine SW.getR (q := 38) (i := 1) (j := 14) fX1_117 rfl rfl dX1_stepCost_35 rfl ?_
    refine SW.iload_n (q := 39) (i := 3) dX1_stepCost_38 rfl rfl rfl ?_
    refine SW.cF (q := 42) (C_X3_atn (i := 14) (j := 40) (n := 576) rfl rfl (k := p) rfl (by omega)) vX1_50 (by decide) rfl rfl rfl rfl (Nat.le_of_ble_eq_true rfl) dX1_stepCost_39 rfl ?_
    refine SW.aload_n (q := 43) (i := 1) dX1_stepCost_42 rfl rfl rfl ?_
    refine SW.getR (q := 46) (i := 1) (j := 14) fX1_117 rfl rfl dX1_stepCost_43 rfl ?_
    refine SW.iload (q := 48) (i := 4) dX1_stepCost_46 rfl rfl ?_
    refine SW.cF (q := 51) (C_X3_atn (i := 14) (j := 40) (n := 576) rfl rfl (k := q) rfl (by omega)) vX1_50 (by decide) rfl rfl rfl rfl (Nat.le_of_ble_eq_true rfl) dX1_stepCost_48 rfl ?_
    refine SW.isub (q := 52) dX1_stepCost_51 rfl ?_
    refine SW.sF (q := 55) (C_abs) vX1_120 (by decide) rfl rfl (Nat.le_of_ble_eq_true rfl) dX1_stepCost_52 rfl ?_
    refine SW.iadd (q := 56) dX1_stepCost_55 rfl ?_
    refine SW.iload (q := 58) (i := 5) dX1_stepCost_56 rfl rfl ?_
    refine SW.if_eq (q := 61) (tgt := 68) dX1_stepCost_58 (by decide) rfl (fun c58 => absurd c58 ((by decide))) (fun _ => ?_)
    refine SW.aload_n (q := 62) (i := 0) dX1_stepCost_61 rfl rfl rfl ?_
    refine SW.getI (q := 65) (i := 5) fX1_29 rfl rfl dX1_stepCost_62 rfl ?_
    refine SW.goto (q := 69) dX1_stepCost_65 (by decide) ?_
    refine SW.iadd (q := 70) dX1_stepCost_69 rfl ?_
    refine SW.iretR rfl rfl dX1_stepCost_70 ?_
    exact ⟨by rw [h1.1, h2.1]; exact nt_st_e h1.2 h2.2 _ _ (by rw [if_pos (Or.inl k1)]; exact hb), rfl⟩
  · by_cases k2 : σ 48 q = 4
    · refine SW.aload_n (q := 1) (i := 2) dX1_stepCost_0 rfl rfl rfl ?_
      refine SW.getR (q := 4) (i := 2) (j := 22) fX1_114 rfl rfl dX1_stepCost_1 rfl ?_
      refine SW.iload_n (q := 5) (i := 3) dX1_stepCost_4 rfl rfl rfl ?_
      refine SW.cF (q := 8) (C_X3_atn (i := 22) (j := 48) (n := 576) rfl rfl (k := p) rfl (by omega)) vX1_50 (by decide) rfl rfl rfl rfl (Nat.le_of_ble_eq_true rfl) dX1_stepCost_5 rfl ?_
      refine SW.iconst (q := 9) (v := 4) dX1_stepCost_8 (by decide) rfl ?_
      refine SW.icmp_eq (q := 12) (tgt := 25) dX1_stepCost_9 (by decide) rfl (fun c9 => absurd c9 (k1)) (fun _ => ?_)
      refine SW.aload_n (q := 13) (i := 2) dX1_stepCost_12 rfl rfl rfl ?_
      refine SW.getR (q := 16) (i := 2) (j := 22) fX1_114 rfl rfl dX1_stepCost_13 rfl ?_
      refine SW.iload (q := 18) (i := 4) dX1_stepCost_16 rfl rfl ?_
      refine SW.cF (q := 21) (C_X3_atn (i := 22) (j := 48) (n := 576) rfl rfl (k := q) rfl (by omega)) vX1_50 (by decide) rfl rfl rfl rfl (Nat.le_of_ble_eq_true rfl) dX1_stepCost_18 rfl ?_
      refine SW.iconst (q := 22) (v := 4) dX1_stepCost_21 (by decide) rfl ?_
      refine SW.icmp_ne (q := 25) (tgt := 29) dX1_stepCost_22 (by decide) rfl (fun c22 => absurd (k2) c22) (fun _ => ?_)
      refine SW.iconst (q := 26) (v := 1) dX1_stepCost_25 (by decide) rfl ?_
      refine SW.goto (q := 30) dX1_stepCost_26 (by decide) ?_
      refine SW.istore (q := 32) (i := 5) dX1_stepCost_30 (by decide) rfl ?_
      refine SW.bipush (q := 34) (v := 10) dX1_stepCost_32 (by decide) rfl ?_
      refine SW.aload_n (q := 35) (i := 1) dX1_stepCost_34 rfl rfl rfl ?_
      refine SW.getR (q := 38) (i := 1) (j := 14) fX1_117 rfl rfl dX1_stepCost_35 rfl ?_
      refine SW.iload_n (q := 39) (i := 3) dX1_stepCost_38 rfl rfl rfl ?_
      refine SW.cF (q := 42) (C_X3_atn (i := 14) (j := 40) (n := 576) rfl rfl (k := p) rfl (by omega)) vX1_50 (by decide) rfl rfl rfl rfl (Nat.le_of_ble_eq_true rfl) dX1_stepCost_39 rfl ?_
      refine SW.aload_n (q := 43) (i := 1) dX1_stepCost_42 rfl rfl rfl ?_
      refine SW.getR (q := 46) (i := 1) (j := 14) fX1_117 rfl rfl dX1_stepCost_43 rfl ?_
      refine SW.iload (q := 48) (i := 4) dX1_stepCost_46 rfl rfl ?_
      refine SW.cF (q := 51) (C_X3_atn (i := 14) (j := 40) (n := 576) rfl rfl (k := q) rfl (by omega)) vX1_50 (by decide) rfl rfl rfl rfl (Nat.le_of_ble_eq_true rfl) dX1_stepCost_48 rfl ?_
      refine SW.isub (q := 52) dX1_stepCost_51 rfl ?_
      refine SW.sF (q := 55) (C_abs) vX1_120 (by decide) rfl rfl (Nat.le_of_ble_eq_true rfl) dX1_stepCost_52 rfl ?_
      refine SW.iadd (q := 56) dX1_stepCost_55 rfl ?_
      refine SW.iload (q := 58) (i := 5) dX1_stepCost_56 rfl rfl ?_
      refine SW.if_eq (q := 61) (tgt := 68) dX1_stepCost_58 (by decide) rfl (fun c58 => absurd c58 ((by decide))) (fun _ => ?_)
      refine SW.aload_n (q := 62) (i := 0) dX1_stepCost_61 rfl rfl rfl ?_
      refine SW.getI (q := 65) (i := 5) fX1_29 rfl rfl dX1_stepCost_62 rfl ?_
      refine SW.goto (q := 69) dX1_stepCost_65 (by decide) ?_
      refine SW.iadd (q := 70) dX1_stepCost_69 rfl ?_
      refine SW.iretR rfl rfl dX1_stepCost_70 ?_
      exact ⟨by rw [h1.1, h2.1]; exact nt_st_e h1.2 h2.2 _ _ (by rw [if_pos (Or.inr k2)]; exact hb), rfl⟩
    · refine SW.aload_n (q := 1) (i := 2) dX1_stepCost_0 rfl rfl rfl ?_
      refine SW.getR (q := 4) (i := 2) (j := 22) fX1_114 rfl rfl dX1_stepCost_1 rfl ?_
      refine SW.iload_n (q := 5) (i := 3) dX1_stepCost_4 rfl rfl rfl ?_
      refine SW.cF (q := 8) (C_X3_atn (i := 22) (j := 48) (n := 576) rfl rfl (k := p) rfl (by omega)) vX1_50 (by decide) rfl rfl rfl rfl (Nat.le_of_ble_eq_true rfl) dX1_stepCost_5 rfl ?_
      refine SW.iconst (q := 9) (v := 4) dX1_stepCost_8 (by decide) rfl ?_
      refine SW.icmp_eq (q := 12) (tgt := 25) dX1_stepCost_9 (by decide) rfl (fun c9 => absurd c9 (k1)) (fun _ => ?_)
      refine SW.aload_n (q := 13) (i := 2) dX1_stepCost_12 rfl rfl rfl ?_
      refine SW.getR (q := 16) (i := 2) (j := 22) fX1_114 rfl rfl dX1_stepCost_13 rfl ?_
      refine SW.iload (q := 18) (i := 4) dX1_stepCost_16 rfl rfl ?_
      refine SW.cF (q := 21) (C_X3_atn (i := 22) (j := 48) (n := 576) rfl rfl (k := q) rfl (by omega)) vX1_50 (by decide) rfl rfl rfl rfl (Nat.le_of_ble_eq_true rfl) dX1_stepCost_18 rfl ?_
      refine SW.iconst (q := 22) (v := 4) dX1_stepCost_21 (by decide) rfl ?_
      refine SW.icmp_ne (q := 25) (tgt := 29) dX1_stepCost_22 (by decide) rfl (fun _ => ?_) (fun c22 => absurd c22 (k2))
      refine SW.iconst (q := 30) (v := 0) dX1_stepCost_29 (by decide) rfl ?_
      refine SW.istore (q := 32) (i := 5) dX1_stepCost_30 (by decide) rfl ?_
      refine SW.bipush (q := 34) (v := 10) dX1_stepCost_32 (by decide) rfl ?_
      refine SW.aload_n (q := 35) (i := 1) dX1_stepCost_34 rfl rfl rfl ?_
      refine SW.getR (q := 38) (i := 1) (j := 14) fX1_117 rfl rfl dX1_stepCost_35 rfl ?_
      refine SW.iload_n (q := 39) (i := 3) dX1_stepCost_38 rfl rfl rfl ?_
      refine SW.cF (q := 42) (C_X3_atn (i := 14) (j := 40) (n := 576) rfl rfl (k := p) rfl (by omega)) vX1_50 (by decide) rfl rfl rfl rfl (Nat.le_of_ble_eq_true rfl) dX1_stepCost_39 rfl ?_
      refine SW.aload_n (q := 43) (i := 1) dX1_stepCost_42 rfl rfl rfl ?_
      refine SW.getR (q := 46) (i := 1) (j := 14) fX1_117 rfl rfl dX1_stepCost_43 rfl ?_
      refine SW.iload (q := 48) (i := 4) dX1_stepCost_46 rfl rfl ?_
      refine SW.cF (q := 51) (C_X3_atn (i := 14) (j := 40) (n := 576) rfl rfl (k := q) rfl (by omega)) vX1_50 (by decide) rfl rfl rfl rfl (Nat.le_of_ble_eq_true rfl) dX1_stepCost_48 rfl ?_
      refine SW.isub (q := 52) dX1_stepCost_51 rfl ?_
      refine SW.sF (q := 55) (C_abs) vX1_120 (by decide) rfl rfl (Nat.le_of_ble_eq_true rfl) dX1_stepCost_52 rfl ?_
      refine SW.iadd (q := 56) dX1_stepCost_55 rfl ?_
      refine SW.iload (q := 58) (i := 5) dX1_stepCost_56 rfl rfl ?_
      refine SW.if_eq (q := 61) (tgt := 68) dX1_stepCost_58 (by decide) rfl (fun _ => ?_) (fun c58 => absurd (rfl) c58)
      refine SW.iconst (q := 69) (v := 0) dX1_stepCost_68 (by decide) rfl ?_
      refine SW.iadd (q := 70) dX1_stepCost_69 rfl ?_
      refine SW.iretR rfl rfl dX1_stepCost_70 ?_
      exact ⟨by rw [h1.1, h2.1]; exact nt_st_e h1.2 h2.2 _ _ (by rw [if_neg (fun z => z.elim k1 k2)]), rfl⟩
theorem C_X8_stepCost (hx : x = nI p) (hy : y = nI q) (hp : p < 576) (hq : q < 576) (h1 : σ 64 p = nI (ht p) ∧ ht p ≤ 400) (h2 : σ 64 q = nI (ht q) ∧ ht q ≤ 400) (hb : σ 60 3 = nI br) :
    sw_F X 0 mX8_stepCost [.ref (sw_ad X 59), .int x, .int y] σ (nI (nt_st ht (σ 70) br p q)) σ := by
  subst hx; subst hy
  refine sw_ME.ofF (by decide +kernel) rfl (Nat.le_of_ble_eq_true rfl) rfl ?_
  have J : ∀ a, a = sw_abs (nI (ht p) - nI (ht q)) → ∀ L : List Value, L = [.ref (sw_ad X 59), .int (nI p), .int (nI q), .int (nI (ht p) - nI (ht q))] → SW X 0 mX8_stepCost sw_E0 (sw_Ri (fun r u => r = nI (nt_st ht (σ 70) br p q) ∧ u = σ)) 26 L [.int a, .int 10] σ := by
    rintro a rfl L rfl
    by_cases k1 : σ 70 p = 4
    · refine SW.iadd (q := 27) dX8_stepCost_26 rfl ?_
      refine SW.aload_n (q := 28) (i := 0) dX8_stepCost_27 rfl rfl rfl ?_
      refine SW.getR (q := 31) (i := 59) (j := 70) fX8_44 rfl rfl dX8_stepCost_28 rfl ?_
      refine SW.iload_n (q := 32) (i := 1) dX8_stepCost_31 rfl rfl rfl ?_
      refine SW.ialdN (q := 33) (k := p) rfl (rfl) (by omega) (by decide) dX8_stepCost_32 rfl ?_
      refine SW.iconst (q := 34) (v := 4) dX8_stepCost_33 (by decide) rfl ?_
      refine SW.icmp_eq (q := 37) (tgt := 47) dX8_stepCost_34 (by decide) rfl (fun _ => ?_) (fun c34 => absurd (k1) c34)
      refine SW.aload_n (q := 48) (i := 0) dX8_stepCost_47 rfl rfl rfl ?_
      refine SW.getR (q := 51) (i := 59) (j := 60) fX8_13 rfl rfl dX8_stepCost_48 rfl ?_
      refine SW.iconst (q := 52) (v := 3) dX8_stepCost_51 (by decide) rfl ?_
      refine SW.ialdN (q := 53) (k := 3) rfl (rfl) (by decide) (by decide) dX8_stepCost_52 rfl ?_
      refine SW.goto (q := 57) dX8_stepCost_53 (by decide) ?_
      refine SW.iadd (q := 58) dX8_stepCost_57 rfl ?_
      refine SW.iretR rfl rfl dX8_stepCost_58 ?_
      exact ⟨nt_st_e h1.2 h2.2 _ _ (by rw [if_pos (Or.inl k1)]; exact hb), rfl⟩
    · by_cases k2 : σ 70 q = 4
      · refine SW.iadd (q := 27) dX8_stepCost_26 rfl ?_
        refine SW.aload_n (q := 28) (i := 0) dX8_stepCost_27 rfl rfl rfl ?_
        refine SW.getR (q := 31) (i := 59) (j := 70) fX8_44 rfl rfl dX8_stepCost_28 rfl ?_
        refine SW.iload_n (q := 32) (i := 1) dX8_stepCost_31 rfl rfl rfl ?_
        refine SW.ialdN (q := 33) (k := p) rfl (rfl) (by omega) (by decide) dX8_stepCost_32 rfl ?_
        refine SW.iconst (q := 34) (v := 4) dX8_stepCost_33 (by decide) rfl ?_
        refine SW.icmp_eq (q := 37) (tgt := 47) dX8_stepCost_34 (by decide) rfl (fun c34 => absurd c34 (k1)) (fun _ => ?_)
        refine SW.aload_n (q := 38) (i := 0) dX8_stepCost_37 rfl rfl rfl ?_
        refine SW.getR (q := 41) (i := 59) (j := 70) fX8_44 rfl rfl dX8_stepCost_38 rfl ?_
        refine SW.iload_n (q := 42) (i := 2) dX8_stepCost_41 rfl rfl rfl ?_
        refine SW.ialdN (q := 43) (k := q) rfl (rfl) (by omega) (by decide) dX8_stepCost_42 rfl ?_
        refine SW.iconst (q := 44) (v := 4) dX8_stepCost_43 (by decide) rfl ?_
        refine SW.icmp_ne (q := 47) (tgt := 56) dX8_stepCost_44 (by decide) rfl (fun c44 => absurd (k2) c44) (fun _ => ?_)
        refine SW.aload_n (q := 48) (i := 0) dX8_stepCost_47 rfl rfl rfl ?_
        refine SW.getR (q := 51) (i := 59) (j := 60) fX8_13 rfl rfl dX8_stepCost_48 rfl ?_
        refine SW.iconst (q := 52) (v := 3) dX8_stepCost_51 (by decide) rfl ?_
        refine SW.ialdN (q := 53) (k := 3) rfl (rfl) (by decide) (by decide) dX8_stepCost_52 rfl ?_
        refine SW.goto (q := 57) dX8_stepCost_53 (by decide) ?_
        refine SW.iadd (q := 58) dX8_stepCost_57 rfl ?_
        refine SW.iretR rfl rfl dX8_stepCost_58 ?_
        exact ⟨nt_st_e h1.2 h2.2 _ _ (by rw [if_pos (Or.inr k2)]; exact hb), rfl⟩
      · refine SW.iadd (q := 27) dX8_stepCost_26 rfl ?_
        refine SW.aload_n (q := 28) (i := 0) dX8_stepCost_27 rfl rfl rfl ?_
        refine SW.getR (q := 31) (i := 59) (j := 70) fX8_44 rfl rfl dX8_stepCost_28 rfl ?_
        refine SW.iload_n (q := 32) (i := 1) dX8_stepCost_31 rfl rfl rfl ?_
        refine SW.ialdN (q := 33) (k := p) rfl (rfl) (by omega) (by decide) dX8_stepCost_32 rfl ?_
        refine SW.iconst (q := 34) (v := 4) dX8_stepCost_33 (by decide) rfl ?_
        refine SW.icmp_eq (q := 37) (tgt := 47) dX8_stepCost_34 (by decide) rfl (fun c34 => absurd c34 (k1)) (fun _ => ?_)
        refine SW.aload_n (q := 38) (i := 0) dX8_stepCost_37 rfl rfl rfl ?_
        refine SW.getR (q := 41) (i := 59) (j := 70) fX8_44 rfl rfl dX8_stepCost_38 rfl ?_
        refine SW.iload_n (q := 42) (i := 2) dX8_stepCost_41 rfl rfl rfl ?_
        refine SW.ialdN (q := 43) (k := q) rfl (rfl) (by omega) (by decide) dX8_stepCost_42 rfl ?_
        refine SW.iconst (q := 44) (v := 4) dX8_stepCost_43 (by decide) rfl ?_
        refine SW.icmp_ne (q := 47) (tgt := 56) dX8_stepCost_44 (by decide) rfl (fun _ => ?_) (fun c44 => absurd c44 (k2))
        refine SW.iconst (q := 57) (v := 0) dX8_stepCost_56 (by decide) rfl ?_
        refine SW.iadd (q := 58) dX8_stepCost_57 rfl ?_
        refine SW.iretR rfl rfl dX8_stepCost_58 ?_
        exact ⟨nt_st_e h1.2 h2.2 _ _ (by rw [if_neg (fun z => z.elim k1 k2)]), rfl⟩
  refine SW.aload_n (q := 1) (i := 0) dX8_stepCost_0 rfl rfl rfl ?_
  refine SW.getR (q := 4) (i := 59) (j := 64) fX8_26 rfl rfl dX8_stepCost_1 rfl ?_
  refine SW.iload_n (q := 5) (i := 1) dX8_stepCost_4 rfl rfl rfl ?_
  refine SW.ialdN (q := 6) (k := p) rfl (rfl) (by omega) (by decide) dX8_stepCost_5 rfl ?_
  refine SW.aload_n (q := 7) (i := 0) dX8_stepCost_6 rfl rfl rfl ?_
  refine SW.getR (q := 10) (i := 59) (j := 64) fX8_26 rfl rfl dX8_stepCost_7 rfl ?_
  refine SW.iload_n (q := 11) (i := 2) dX8_stepCost_10 rfl rfl rfl ?_
  refine SW.ialdN (q := 12) (k := q) rfl (rfl) (by omega) (by decide) dX8_stepCost_11 rfl ?_
  refine SW.isub (q := 13) dX8_stepCost_12 rfl ?_
  rw [h1.1, h2.1]
  refine SW.istore_n (q := 14) (i := 3) dX8_stepCost_13 rfl (by decide) rfl ?_
  refine SW.bipush (q := 16) (v := 10) dX8_stepCost_14 (by decide) rfl ?_
  refine SW.iload_n (q := 17) (i := 3) dX8_stepCost_16 rfl rfl rfl ?_
  refine SW.if_ge (q := 20) (tgt := 25) dX8_stepCost_17 (by decide) rfl (fun c17 => ?_) (fun c17 => ?_)
  · refine SW.iload_n (q := 26) (i := 3) dX8_stepCost_25 rfl rfl rfl ?_
    first
    | exact J _ (by rw [sw_abs, if_pos c17]) _ rfl
    | exact J _ (by rw [sw_abs, if_neg c17]) _ rfl
  · refine SW.iload_n (q := 21) (i := 3) dX8_stepCost_20 rfl rfl rfl ?_
    refine SW.ineg (q := 22) dX8_stepCost_21 rfl ?_
    refine SW.goto (q := 26) dX8_stepCost_22 (by decide) ?_
    first
    | exact J _ (by rw [sw_abs, if_pos c17]) _ rfl
    | exact J _ (by rw [sw_abs, if_neg c17]) _ rfl
theorem C_X8_isWay (hx : x = nI p) (hp : p < 576) : sw_F X 0 mX8_isWay [.ref (sw_ad X 59), .int x] σ (sw_b (decide (4 ≤ σ 70 p))) σ := by
  subst hx
  refine sw_ME.ofF (by decide +kernel) rfl (Nat.le_of_ble_eq_true rfl) rfl ?_
  refine SW.aload_n (q := 1) (i := 0) dX8_isWay_0 rfl rfl rfl ?_
  refine SW.getR (q := 4) (i := 59) (j := 70) fX8_44 rfl rfl dX8_isWay_1 rfl ?_
  refine SW.iload_n (q := 5) (i := 1) dX8_isWay_4 rfl rfl rfl ?_
  refine SW.ialdN (q := 6) (k := p) rfl (rfl) (by omega) (by decide) dX8_isWay_5 rfl ?_
  refine SW.iconst (q := 7) (v := 4) dX8_isWay_6 (by decide) rfl ?_
  refine SW.icmp_lt (q := 10) (tgt := 14) dX8_isWay_7 (by decide) rfl (fun c7 => ?_) (fun c7 => ?_)
  · refine SW.iconst (q := 15) (v := 0) dX8_isWay_14 (by decide) rfl ?_
    refine SW.iretR rfl rfl dX8_isWay_15 ?_
    refine ⟨?_, rfl⟩
    first
    | (rw [decide_eq_true (p := 4 ≤ σ 70 p) (Int32.not_lt.mp c7)]; rfl)
    | (rw [decide_eq_false (p := 4 ≤ σ 70 p) (Int32.not_le.mpr c7)]; rfl)
  · refine SW.iconst (q := 11) (v := 1) dX8_isWay_10 (by decide) rfl ?_
    refine SW.goto (q := 15) dX8_isWay_11 (by decide) ?_
    refine SW.iretR rfl rfl dX8_isWay_15 ?_
    refine ⟨?_, rfl⟩
    first
    | (rw [decide_eq_true (p := 4 ≤ σ 70 p) (Int32.not_lt.mp c7)]; rfl)
    | (rw [decide_eq_false (p := 4 ≤ σ 70 p) (Int32.not_le.mpr c7)]; rfl)
theorem C_X1_costOf {t : Nat} (hx : x = nI p) (hy : y = nI t) (hp : p < 576) (ht6 : t < 6) : sw_F X 1 mX1_costOf [.ref (sw_ad X 5), .int x, .int y] σ (σ 54 (576 * t + p)) σ := by
  subst hx; subst hy
  refine sw_ME.ofF (by decide +kernel) rfl (Nat.le_of_ble_eq_true rfl) rfl ?_
  refine SW.aload_n (q := 1) (i := 0) dX1_costOf_0 rfl rfl rfl ?_
  refine SW.getR (q := 4) (i := 5) (j := 28) fX1_14 rfl rfl dX1_costOf_1 rfl ?_
  refine SW.sipush (q := 7) (v := 576) dX1_costOf_4 (by decide) rfl ?_
  refine SW.iload_n (q := 8) (i := 2) dX1_costOf_7 rfl rfl rfl ?_
  refine SW.imul (q := 9) dX1_costOf_8 rfl ?_
  refine SW.iload_n (q := 10) (i := 1) dX1_costOf_9 rfl rfl rfl ?_
  refine SW.iadd (q := 11) dX1_costOf_10 rfl ?_
  refine SW.cF (q := 14) (C_X3_atn (i := 28) (j := 54) (n := 3456) rfl rfl (k := 576 * t + p) (by rw [show (576 : Int32) = nI 576 from rfl, pk_mul, nI_add]) (by omega)) vX1_50 (by decide) rfl rfl rfl rfl (Nat.le_of_ble_eq_true rfl) dX1_costOf_11 rfl ?_
  refine SW.iretR rfl rfl dX1_costOf_14 ?_
  exact ⟨rfl, rfl⟩
end NSTEP
