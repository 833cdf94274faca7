/-! WAYS: the next place of a cheapest way -/
def nt_good (ht : Nat → Nat) (kd : Nat → Int32) (br : Nat) (d : Nat → Option Nat) (p q : Nat) : Prop := nt_pass kd q ∧ ∃ c, d q = some c ∧ d p = some (c + nt_st ht kd br p q)
noncomputable def nt_nx (n : Nat) (ht : Nat → Nat) (kd : Nat → Int32) (br : Nat) (d : Nat → Option Nat) (p : Nat) : Nat → Option Nat
  | 0 => none
  | k + 1 => match gr_nb n p (3 - k) with
    | none => nt_nx n ht kd br d p k
    | some q => @ite _ (nt_good ht kd br d p q) (Classical.propDecidable _) (some q) (nt_nx n ht kd br d p k)
section NMATH
variable {n br s p q k c : Nat} {ht : Nat → Nat} {kd : Nat → Int32} {d : Nat → Option Nat}
theorem nx_none (h : gr_nb n p (3 - k) = none) : nt_nx n ht kd br d p (k + 1) = nt_nx n ht kd br d p k := by
  rw [nt_nx, h]
theorem nx_bad (h : gr_nb n p (3 - k) = some q) (hg : ¬ nt_good ht kd br d p q) : nt_nx n ht kd br d p (k + 1) = nt_nx n ht kd br d p k := by
  rw [nt_nx, h]; exact if_neg hg
theorem nx_good (h : gr_nb n p (3 - k) = some q) (hg : nt_good ht kd br d p q) : nt_nx n ht kd br d p (k + 1) = some q := by
  rw [nt_nx, h]; exact if_pos hg
theorem nx_some : ∀ k, k ≤ 4 → nt_nx n ht kd br d p k = some q → wl_adj n p q ∧ nt_good ht kd br d p q := by
  intro k
  induction k with
  | zero => intro _ h; cases h
  | succ k ih =>
    intro hk h
    cases e : gr_nb n p (3 - k) with
    | none => rw [nx_none e] at h; exact ih (by omega) h
    | some v =>
      by_cases g : nt_good ht kd br d p v
      · rw [nx_good e g] at h; cases h
        exact ⟨⟨3 - k, by omega, e⟩, g⟩
      · rw [nx_bad e g] at h; exact ih (by omega) h
theorem nx_ex (hg : nt_good ht kd br d p q) : ∀ k e, e + k = 4 → ∀ e', e ≤ e' → e' < 4 → gr_nb n p e' = some q → ∃ v, nt_nx n ht kd br d p k = some v := by
  intro k
  induction k with
  | zero => intro e he e' h1 h2; omega
  | succ k ih =>
    intro e he e' h1 h2 h3
    have e3 : 3 - k = e := by omega
    by_cases z : e' = e
    · subst z
      exact ⟨q, nx_good (by rw [e3]; exact h3) hg⟩
    · obtain ⟨v, hv⟩ := ih (e + 1) (by omega) e' (by omega) h2 h3
      cases e0 : gr_nb n p (3 - k) with
      | none => exact ⟨v, by rw [nx_none e0]; exact hv⟩
      | some w =>
        by_cases g : nt_good ht kd br d p w
        · exact ⟨w, nx_good e0 g⟩
        · exact ⟨v, by rw [nx_bad e0 g]; exact hv⟩
theorem nt_st_sym : nt_st ht kd br p q = nt_st ht kd br q p := by
  have h1 : gr_abs (ht p) (ht q) = gr_abs (ht q) (ht p) := by unfold gr_abs; split <;> split <;> omega
  have h2 : (kd p = 4 ∨ kd q = 4) ↔ (kd q = 4 ∨ kd p = 4) := Or.comm
  unfold nt_st
  rw [h1]
  by_cases z : kd p = 4 ∨ kd q = 4
  · rw [if_pos z, if_pos (h2.mp z)]
  · rw [if_neg z, if_neg (fun y => z (h2.mpr y))]
/-- away from the town there is a next place -/
theorem nx_go (h : nt_ok n ht kd br s d) (hs : nt_pass kd s) (hs2 : s < n * n) (hd : d p = some c) (hp : p ≠ s) : ∃ q, nt_nx n ht kd br d p 4 = some q := by
  obtain ⟨p1, -, l, hl⟩ := h.2.1 p c hd
  cases l with
  | zero => exact absurd hl.1 hp
  | succ l =>
    obtain ⟨u, c0, h1, h2, h3, rfl⟩ := hl
    obtain ⟨c1, e1, l1⟩ := nt_le h l u c0 h1
    obtain ⟨c2, e2, l2⟩ := h.2.2 u c1 p e1 h2 h3
    rw [hd] at e2; cases e2
    have u1 := (h.2.1 u c1 e1).1
    have hu : nt_pass kd u := by
      cases l with
      | zero => rw [h1.1]; exact hs
      | succ l => obtain ⟨w, c3, -, -, z, -⟩ := h1; exact z
    obtain ⟨e', e4, ea⟩ := wl_adj_sym u1 h2
    have : c1 = c0 := by omega
    subst this
    exact nx_ex (q := u) ⟨hu, c1, e1, by rw [hd, nt_st_sym]⟩ 4 0 rfl e' (Nat.zero_le _) e4 ea
theorem nx_s (h : nt_ok n ht kd br s d) : nt_nx n ht kd br d s 4 = none := by
  cases e : nt_nx n ht kd br d s 4 with
  | none => rfl
  | some q =>
    obtain ⟨-, -, c, -, e1⟩ := nx_some 4 (Nat.le_refl _) e
    rw [h.1] at e1
    have e1 : 0 = c + nt_st ht kd br s q := Option.some.inj e1
    have := nt_st_ge (ht := ht) (kd := kd) (br := br) (p := s) (q := q)
    omega
theorem nx_nn (hd : d p = none) : nt_nx n ht kd br d p 4 = none := by
  cases e : nt_nx n ht kd br d p 4 with
  | none => rfl
  | some q =>
    obtain ⟨-, -, c, -, e1⟩ := nx_some 4 (Nat.le_refl _) e
    rw [hd] at e1; cases e1
theorem nx_congr {ht' : Nat → Nat} {kd' : Nat → Int32} (hp : p < n * n) (h : ∀ p, p < n * n → ht p = ht' p ∧ kd p = kd' p) : ∀ k, nt_nx n ht kd br d p k = nt_nx n ht' kd' br d p k := by
  intro k
  induction k with
  | zero => rfl
  | succ k ih =>
    cases e : gr_nb n p (3 - k) with
    | none => rw [nx_none e, nx_none e, ih]
    | some v =>
      obtain ⟨a1, a2⟩ := h v (gr_nb_lt hp e).1
      obtain ⟨b1, b2⟩ := h p hp
      have st : nt_st ht kd br p v = nt_st ht' kd' br p v := by unfold nt_st; rw [a1, a2, b1, b2]
      have iff : nt_good ht kd br d p v ↔ nt_good ht' kd' br d p v := by unfold nt_good nt_pass; rw [st, a2]
      by_cases g : nt_good ht kd br d p v
      · rw [nx_good e g, nx_good e (iff.mp g)]
      · rw [nx_bad e g, nx_bad e (fun z => g (iff.mpr z)), ih]
/-- i steps on -/
def nt_wy (N : Nat → Option Nat) : Nat → Option Nat → Option Nat
  | 0, o => o
  | i + 1, o => nt_wy N i (o.bind N)
theorem wy_none (N : Nat → Option Nat) : ∀ i, nt_wy N i none = none := by
  intro i
  induction i with
  | zero => rfl
  | succ i ih => exact ih
theorem wy_succ (N : Nat → Option Nat) : ∀ i o, nt_wy N (i + 1) o = (nt_wy N i o).bind N := by
  intro i
  induction i with
  | zero => intro o; rfl
  | succ i ih => intro o; exact ih (o.bind N)
theorem wy_mid (N : Nat → Option Nat) {o : Option Nat} : ∀ j i, (∃ b, nt_wy N (i + j) o = some b) → ∃ a, nt_wy N i o = some a := by
  intro j
  induction j with
  | zero => intro i h; exact h
  | succ j ih =>
    rintro i ⟨b, hb⟩
    refine ih i ?_
    have e : i + (j + 1) = (i + j) + 1 := by omega
    rw [e, wy_succ] at hb
    cases z : nt_wy N (i + j) o with
    | none => rw [z] at hb; cases hb
    | some a => exact ⟨a, rfl⟩
theorem wy_fall {N : Nat → Option Nat} (hN : ∀ a b, N a = some b → ∃ c c', d a = some c ∧ d b = some c' ∧ c' < c) {o : Option Nat} : ∀ j i a b, nt_wy N i o = some a → nt_wy N (i + j + 1) o = some b → ∃ c c', d a = some c ∧ d b = some c' ∧ c' < c := by
  intro j
  induction j with
  | zero =>
    intro i a b ha hb
    rw [Nat.add_zero, wy_succ, ha] at hb
    exact hN a b hb
  | succ j ih =>
    intro i a b ha hb
    have e : i + (j + 1) + 1 = (i + j + 1) + 1 := by omega
    rw [e, wy_succ] at hb
    cases z : nt_wy N (i + j + 1) o with
    | none => rw [z] at hb; cases hb
    | some w =>
      rw [z] at hb
      obtain ⟨c, c', h1, h2, h3⟩ := ih i a w ha z
      obtain ⟨c2, c3, h4, h5, h6⟩ := hN w b hb
      rw [h2] at h4; cases h4
      exact ⟨c, c3, h1, h5, by omega⟩
/-- a way ends before it has been everywhere -/
theorem wy_end {N : Nat → Option Nat} (hN : ∀ a b, N a = some b → ∃ c c', d a = some c ∧ d b = some c' ∧ c' < c) (hlt : ∀ a b, a < n * n → N a = some b → b < n * n) (hp : p < n * n) : nt_wy N (n * n) (some p) = none := by
  cases hz : nt_wy N (n * n) (some p) with
  | none => rfl
  | some z =>
    exfalso
    have all : ∀ i, i < n * n + 1 → ∃ a, nt_wy N i (some p) = some a := fun i hi => wy_mid N (n * n - i) i (by rw [show i + (n * n - i) = n * n by omega]; exact ⟨z, hz⟩)
    have lt : ∀ i a, nt_wy N i (some p) = some a → a < n * n := by
      intro i
      induction i with
      | zero => intro a e; cases e; exact hp
      | succ i ih =>
        intro a e
        rw [wy_succ] at e
        cases w : nt_wy N i (some p) with
        | none => rw [w] at e; cases e
        | some b => rw [w] at e; exact hlt b a (ih b w) e
    have ne : ∀ i j a b, i < j → nt_wy N i (some p) = some a → nt_wy N j (some p) = some b → a ≠ b := by
      rintro i j a b hij ha hb rfl
      obtain ⟨c, c', h1, h2, h3⟩ := wy_fall (d := d) hN (j - i - 1) i a a ha (by rw [show i + (j - i - 1) + 1 = j by omega]; exact hb)
      rw [h1] at h2; cases h2
      omega
    have := inj_le (M := n * n) (N := n * n + 1) (f := fun i => (nt_wy N i (some p)).getD 0) (fun i hi => by
      obtain ⟨a, ha⟩ := all i hi
      show (nt_wy N i (some p)).getD 0 < n * n
      rw [ha]; exact lt i a ha) (fun i j hi hj e => by
      obtain ⟨a, ha⟩ := all i hi
      obtain ⟨b, hb⟩ := all j hj
      have e : (nt_wy N i (some p)).getD 0 = (nt_wy N j (some p)).getD 0 := e
      rw [ha, hb] at e
      have e : a = b := e
      rcases Nat.lt_trichotomy i j with z | z | z
      · exact absurd e (ne i j a b z ha hb)
      · exact z
      · exact absurd e.symm (ne j i b a z hb ha))
    omega
/-- what a road adds to the places that it passes -/
def nt_ly (N : Nat → Option Nat) : Nat → Option Nat → (Nat → Int32) → Nat → Int32
  | 0, _, g => g
  | _ + 1, none, g => g
  | k + 1, some p, g => nt_ly N k (N p) (upd g p (g p + 1))
theorem ly_none (N : Nat → Option Nat) (g : Nat → Int32) : ∀ k, nt_ly N k none g = g := by
  intro k; cases k <;> rfl
theorem nx_fall : ∀ a b, nt_nx n ht kd br d a 4 = some b → ∃ c c', d a = some c ∧ d b = some c' ∧ c' < c := by
  intro a b e
  obtain ⟨-, -, c, h1, h2⟩ := nx_some 4 (Nat.le_refl _) e
  have := nt_st_ge (ht := ht) (kd := kd) (br := br) (p := a) (q := b)
  exact ⟨_, c, h2, h1, by omega⟩
theorem nx_lt : ∀ a b, a < n * n → nt_nx n ht kd br d a 4 = some b → b < n * n := by
  intro a b ha e
  obtain ⟨⟨e', e4, ea⟩, -⟩ := nx_some 4 (Nat.le_refl _) e
  exact (gr_nb_lt ha ea).1
end NMATH
section NEXT
variable {X : sw_X} {σ τ : sw_Sg} {x y v w st : Int32} {n p q br r s t M c : Nat} {h : Nat → Nat} {kd : Nat → Int32} {d : Nat → Option Nat} {E : State → Prop} {R : Option Value → sw_Sg → Prop}
def nk_G (n : Nat) (h : Nat → Nat) (kd : Nat → Int32) (br : Nat) (σ : sw_Sg) : Prop := ww_G n h σ ∧ σ 48 = kd ∧ σ 5 4 = nI br ∧ br ≤ 100
theorem nk_G.fr {l : List Nat} {σ u : sw_Sg} (a : nk_G n h kd br σ) (hf : fr_ l σ u) (h1 : 1 ∉ l) (h2 : 37 ∉ l) (h3 : 38 ∉ l) (h4 : 40 ∉ l) (h5 : 48 ∉ l) (h6 : 5 ∉ l) : nk_G n h kd br u :=
  ⟨a.1.fr hf h1 h2 h3 h4, by rw [hf 48 h5]; exact a.2.1, by rw [hf 5 h6]; exact a.2.2.1, a.2.2.2⟩
theorem C_X1_nextPlace (hG : nk_G n h kd br σ) (ht6 : t < 6) (hbd : ∀ v c, d v = some c → c ≤ 300000) (hl : nt_lab n t d σ) (hx : x = nI p) (hp : p < n * n) (hy : y = nI t) :
    sw_F X 2 mX1_nextPlace [.ref (sw_ad X 5), .ref (sw_ad X 1), .ref (sw_ad X 2), .int x, .int y] σ (gr_v (nt_nx n h kd br d p 4)) σ := by
  subst hx; subst hy
  have n24 : n ≤ 24 := hG.1.1.2.1
  have h576 := gr_576 n24
  refine sw_ME.ofF (by decide +kernel) rfl (Nat.le_of_ble_eq_true rfl) rfl ?_
  have loop : ∀ (k e : Nat), e + k = 4 → nt_nx n h kd br d p 4 = nt_nx n h kd br d p k → ∀ B, SW X 2 mX1_nextPlace sw_E0 (sw_Ri (fun r u => r = gr_v (nt_nx n h kd br d p 4) ∧ u = σ)) 3 [.ref (sw_ad X 5), .ref (sw_ad X 1), .ref (sw_ad X 2), .int (nI p), .int (nI t), .int (nI e), B] [] σ := by
    intro k
    induction k with
    | zero =>
      intro e he hk B
      obtain rfl : e = 4 := by omega
      refine SW.iload (q := 5) (i := 5) dX1_nextPlace_3 rfl rfl ?_
      refine SW.iconst (q := 6) (v := 4) dX1_nextPlace_5 (by decide) rfl ?_
      refine SW.icmp_ge (q := 9) (tgt := 84) dX1_nextPlace_6 (by decide) rfl (fun _ => ?_) (fun c6 => absurd ((by decide)) c6)
      refine SW.bipush (q := 86) (v := (-6)) dX1_nextPlace_84 (by decide) rfl ?_
      refine SW.iretR rfl rfl dX1_nextPlace_86 ?_
      exact ⟨by rw [hk]; rfl, rfl⟩
    | succ k ih =>
      intro e he hk B
      have e3 : 3 - k = e := by omega
      have skip : nt_nx n h kd br d p (k + 1) = nt_nx n h kd br d p k → ∀ B, SW X 2 mX1_nextPlace sw_E0 (sw_Ri (fun r u => r = gr_v (nt_nx n h kd br d p 4) ∧ u = σ)) 3 [.ref (sw_ad X 5), .ref (sw_ad X 1), .ref (sw_ad X 2), .int (nI p), .int (nI t), .int (nI (e + 1)), B] [] σ := fun z B => ih (e + 1) (by omega) (by rw [hk, z]) B
      cases hnb : gr_nb n p e with
      | none =>
        refine SW.iload (q := 5) (i := 5) dX1_nextPlace_3 rfl rfl ?_
        refine SW.iconst (q := 6) (v := 4) dX1_nextPlace_5 (by decide) rfl ?_
        refine SW.icmp_ge (q := 9) (tgt := 84) dX1_nextPlace_6 (by decide) rfl (fun c6 => absurd c6 ((nI_ge (a := e) (b := 4) (by omega) (by omega)))) (fun _ => ?_)
        refine SW.aload_n (q := 10) (i := 1) dX1_nextPlace_9 rfl rfl rfl ?_
        refine SW.iload_n (q := 11) (i := 3) dX1_nextPlace_10 rfl rfl rfl ?_
        refine SW.iload (q := 13) (i := 5) dX1_nextPlace_11 rfl rfl ?_
        refine SW.cF (q := 16) (C_X5_beside hG.1.1 rfl rfl hp (by omega)) vX1_100 (by decide) rfl rfl rfl rfl (Nat.le_of_ble_eq_true rfl) dX1_nextPlace_13 rfl ?_
        rw [hnb]
        refine SW.istore (q := 18) (i := 6) dX1_nextPlace_16 (by decide) rfl ?_
        refine SW.iload (q := 20) (i := 6) dX1_nextPlace_18 rfl rfl ?_
        refine SW.bipush (q := 22) (v := (-6)) dX1_nextPlace_20 (by decide) rfl ?_
        refine SW.icmp_eq (q := 25) (tgt := 78) dX1_nextPlace_22 (by decide) rfl (fun _ => ?_) (fun c22 => absurd (rfl) c22)
        refine SW.iinc (q := 81) (v := _ + 1) dX1_nextPlace_78 rfl rfl (by decide) rfl ?_
        refine SW.goto (q := 3) dX1_nextPlace_81 (by decide) ?_
        exact SW.eq (by rw [nI_1]; rfl) rfl rfl (skip (nx_none (by rw [e3]; exact hnb)) _)
      | some v0 =>
        have vP := (gr_nb_lt hp hnb).1
        have vi : gr_v (some v0) = nI v0 := rfl
        have nb3 : gr_nb n p (3 - k) = some v0 := by rw [e3]; exact hnb
        have hst := nt_st_le (ht := h) (kd := kd) (br := br) (p := p) (q := v0) (hG.1.2 p hp).2 (hG.1.2 v0 vP).2 hG.2.2.2
        by_cases hps : nt_pass kd v0
        · have hpd : decide (σ 48 v0 = 4 ∨ σ 48 v0 = 8) = true := decide_eq_true (by rw [hG.2.1]; exact hps)
          cases hd : d v0 with
          | none =>
            have bad : ¬ nt_good h kd br d p v0 := by rintro ⟨-, c, z, -⟩; rw [hd] at z; cases z
            refine SW.iload (q := 5) (i := 5) dX1_nextPlace_3 rfl rfl ?_
            refine SW.iconst (q := 6) (v := 4) dX1_nextPlace_5 (by decide) rfl ?_
            refine SW.icmp_ge (q := 9) (tgt := 84) dX1_nextPlace_6 (by decide) rfl (fun c6 => absurd c6 ((nI_ge (a := e) (b := 4) (by omega) (by omega)))) (fun _ => ?_)
            refine SW.aload_n (q := 10) (i := 1) dX1_nextPlace_9 rfl rfl rfl ?_
            refine SW.iload_n (q := 11) (i := 3) dX1_nextPlace_10 rfl rfl rfl ?_
            refine SW.iload (q := 13) (i := 5) dX1_nextPlace_11 rfl rfl ?_
            refine SW.cF (q := 16) (C_X5_beside hG.1.1 rfl rfl hp (by omega)) vX1_100 (by decide) rfl rfl rfl rfl (Nat.le_of_ble_eq_true rfl) dX1_nextPlace_13 rfl ?_
            rw [hnb, vi]
            refine SW.istore (q := 18) (i := 6) dX1_nextPlace_16 (by decide) rfl ?_
            refine SW.iload (q := 20) (i := 6) dX1_nextPlace_18 rfl rfl ?_
            refine SW.bipush (q := 22) (v := (-6)) dX1_nextPlace_20 (by decide) rfl ?_
            refine SW.icmp_eq (q := 25) (tgt := 78) dX1_nextPlace_22 (by decide) rfl (fun c22 => absurd c22 ((nI_n6 (by omega)))) (fun _ => ?_)
            refine SW.aload_n (q := 26) (i := 2) dX1_nextPlace_25 rfl rfl rfl ?_
            refine SW.iload (q := 28) (i := 6) dX1_nextPlace_26 rfl rfl ?_
            refine SW.cF (q := 31) (C_X6_isPassable rfl (by omega)) vX1_104 (by decide) rfl rfl rfl rfl (Nat.le_of_ble_eq_true rfl) dX1_nextPlace_28 rfl ?_
            rw [hpd]
            refine SW.if_eq (q := 34) (tgt := 78) dX1_nextPlace_31 (by decide) rfl (fun c31 => absurd c31 ((by decide))) (fun _ => ?_)
            refine SW.aload_n (q := 35) (i := 0) dX1_nextPlace_34 rfl rfl rfl ?_
            refine SW.iload (q := 37) (i := 6) dX1_nextPlace_35 rfl rfl ?_
            refine SW.iload (q := 39) (i := 4) dX1_nextPlace_37 rfl rfl ?_
            refine SW.cF (q := 42) (C_X1_costOf (p := v0) (t := t) rfl rfl (by omega) ht6) vX1_125 (by decide) rfl rfl rfl rfl (Nat.le_of_ble_eq_true rfl) dX1_nextPlace_39 rfl ?_
            refine SW.bipush (q := 44) (v := (-6)) dX1_nextPlace_42 (by decide) rfl ?_
            refine SW.icmp_eq (q := 47) (tgt := 78) dX1_nextPlace_44 (by decide) rfl (fun _ => ?_) (fun c44 => absurd ((by rw [hl v0 vP, hd]; rfl)) c44)
            refine SW.iinc (q := 81) (v := _ + 1) dX1_nextPlace_78 rfl rfl (by decide) rfl ?_
            refine SW.goto (q := 3) dX1_nextPlace_81 (by decide) ?_
            exact SW.eq (by rw [nI_1]; rfl) rfl rfl (skip (nx_bad nb3 bad) _)
          | some c0 =>
            have c0b := hbd v0 c0 hd
            have lv : σ 54 (576 * t + v0) = nI c0 := by rw [hl v0 vP, hd]; rfl
            have cst : nI c0 + nI (nt_st h (σ 48) br p v0) = nI (c0 + nt_st h kd br p v0) := by rw [nI_add, hG.2.1]
            by_cases g : nt_good h kd br d p v0
            · have lp : σ 54 (576 * t + p) = nI (c0 + nt_st h kd br p v0) := by
                obtain ⟨-, c, z1, z2⟩ := g
                rw [hd] at z1; cases z1
                rw [hl p hp, z2]; rfl
              refine SW.iload (q := 5) (i := 5) dX1_nextPlace_3 rfl rfl ?_
              refine SW.iconst (q := 6) (v := 4) dX1_nextPlace_5 (by decide) rfl ?_
              refine SW.icmp_ge (q := 9) (tgt := 84) dX1_nextPlace_6 (by decide) rfl (fun c6 => absurd c6 ((nI_ge (a := e) (b := 4) (by omega) (by omega)))) (fun _ => ?_)
              refine SW.aload_n (q := 10) (i := 1) dX1_nextPlace_9 rfl rfl rfl ?_
              refine SW.iload_n (q := 11) (i := 3) dX1_nextPlace_10 rfl rfl rfl ?_
              refine SW.iload (q := 13) (i := 5) dX1_nextPlace_11 rfl rfl ?_
              refine SW.cF (q := 16) (C_X5_beside hG.1.1 rfl rfl hp (by omega)) vX1_100 (by decide) rfl rfl rfl rfl (Nat.le_of_ble_eq_true rfl) dX1_nextPlace_13 rfl ?_
              rw [hnb, vi]
              refine SW.istore (q := 18) (i := 6) dX1_nextPlace_16 (by decide) rfl ?_
              refine SW.iload (q := 20) (i := 6) dX1_nextPlace_18 rfl rfl ?_
              refine SW.bipush (q := 22) (v := (-6)) dX1_nextPlace_20 (by decide) rfl ?_
              refine SW.icmp_eq (q := 25) (tgt := 78) dX1_nextPlace_22 (by decide) rfl (fun c22 => absurd c22 ((nI_n6 (by omega)))) (fun _ => ?_)
              refine SW.aload_n (q := 26) (i := 2) dX1_nextPlace_25 rfl rfl rfl ?_
              refine SW.iload (q := 28) (i := 6) dX1_nextPlace_26 rfl rfl ?_
              refine SW.cF (q := 31) (C_X6_isPassable rfl (by omega)) vX1_104 (by decide) rfl rfl rfl rfl (Nat.le_of_ble_eq_true rfl) dX1_nextPlace_28 rfl ?_
              rw [hpd]
              refine SW.if_eq (q := 34) (tgt := 78) dX1_nextPlace_31 (by decide) rfl (fun c31 => absurd c31 ((by decide))) (fun _ => ?_)
              refine SW.aload_n (q := 35) (i := 0) dX1_nextPlace_34 rfl rfl rfl ?_
              refine SW.iload (q := 37) (i := 6) dX1_nextPlace_35 rfl rfl ?_
              refine SW.iload (q := 39) (i := 4) dX1_nextPlace_37 rfl rfl ?_
              refine SW.cF (q := 42) (C_X1_costOf (p := v0) (t := t) rfl rfl (by omega) ht6) vX1_125 (by decide) rfl rfl rfl rfl (Nat.le_of_ble_eq_true rfl) dX1_nextPlace_39 rfl ?_
              refine SW.bipush (q := 44) (v := (-6)) dX1_nextPlace_42 (by decide) rfl ?_
              refine SW.icmp_eq (q := 47) (tgt := 78) dX1_nextPlace_44 (by decide) rfl (fun c44 => absurd c44 ((by rw [lv]; exact nI_n6 (by omega)))) (fun _ => ?_)
              refine SW.aload_n (q := 48) (i := 0) dX1_nextPlace_47 rfl rfl rfl ?_
              refine SW.iload (q := 50) (i := 6) dX1_nextPlace_48 rfl rfl ?_
              refine SW.iload (q := 52) (i := 4) dX1_nextPlace_50 rfl rfl ?_
              refine SW.cF (q := 55) (C_X1_costOf (p := v0) (t := t) rfl rfl (by omega) ht6) vX1_125 (by decide) rfl rfl rfl rfl (Nat.le_of_ble_eq_true rfl) dX1_nextPlace_52 rfl ?_
              refine SW.aload_n (q := 56) (i := 0) dX1_nextPlace_55 rfl rfl rfl ?_
              refine SW.aload_n (q := 57) (i := 1) dX1_nextPlace_56 rfl rfl rfl ?_
              refine SW.aload_n (q := 58) (i := 2) dX1_nextPlace_57 rfl rfl rfl ?_
              refine SW.iload_n (q := 59) (i := 3) dX1_nextPlace_58 rfl rfl rfl ?_
              refine SW.iload (q := 61) (i := 6) dX1_nextPlace_59 rfl rfl ?_
              refine SW.cF (C_X1_stepCost (ht := h) (p := p) (q := v0) rfl rfl (by omega) (by omega) (hG.1.2 p hp) (hG.1.2 v0 vP) hG.2.2.1) vX1_110 (by decide) rfl rfl rfl rfl (Nat.le_of_ble_eq_true rfl) dX1_nextPlace_61 rfl ?_
              refine SW.iadd (q := 65) dX1_nextPlace_64 rfl ?_
              refine SW.aload_n (q := 66) (i := 0) dX1_nextPlace_65 rfl rfl rfl ?_
              refine SW.iload_n (q := 67) (i := 3) dX1_nextPlace_66 rfl rfl rfl ?_
              refine SW.iload (q := 69) (i := 4) dX1_nextPlace_67 rfl rfl ?_
              refine SW.cF (q := 72) (C_X1_costOf (p := p) (t := t) rfl rfl (by omega) ht6) vX1_125 (by decide) rfl rfl rfl rfl (Nat.le_of_ble_eq_true rfl) dX1_nextPlace_69 rfl ?_
              refine SW.icmp_ne (q := 75) (tgt := 78) dX1_nextPlace_72 (by decide) rfl (fun c72 => absurd ((by rw [lv, lp, cst])) c72) (fun _ => ?_)
              refine SW.iload (q := 77) (i := 6) dX1_nextPlace_75 rfl rfl ?_
              refine SW.iretR rfl rfl dX1_nextPlace_77 ?_
              exact ⟨by rw [hk, nx_good nb3 g]; rfl, rfl⟩
            · have lp : ¬ nI (c0 + nt_st h kd br p v0) = σ 54 (576 * t + p) := by
                rw [hl p hp]
                cases hdp : d p with
                | none => exact nI_n6 (by omega)
                | some c1 =>
                  have c1b := hbd p c1 hdp
                  show ¬ nI _ = nI c1
                  rw [nI_eq (by omega) (by omega)]
                  intro z
                  exact g ⟨hps, c0, hd, by rw [hdp, z]⟩
              refine SW.iload (q := 5) (i := 5) dX1_nextPlace_3 rfl rfl ?_
              refine SW.iconst (q := 6) (v := 4) dX1_nextPlace_5 (by decide) rfl ?_
              refine SW.icmp_ge (q := 9) (tgt := 84) dX1_nextPlace_6 (by decide) rfl (fun c6 => absurd c6 ((nI_ge (a := e) (b := 4) (by omega) (by omega)))) (fun _ => ?_)
              refine SW.aload_n (q := 10) (i := 1) dX1_nextPlace_9 rfl rfl rfl ?_
              refine SW.iload_n (q := 11) (i := 3) dX1_nextPlace_10 rfl rfl rfl ?_
              refine SW.iload (q := 13) (i := 5) dX1_nextPlace_11 rfl rfl ?_
              refine SW.cF (q := 16) (C_X5_beside hG.1.1 rfl rfl hp (by omega)) vX1_100 (by decide) rfl rfl rfl rfl (Nat.le_of_ble_eq_true rfl) dX1_nextPlace_13 rfl ?_
              rw [hnb, vi]
              refine SW.istore (q := 18) (i := 6) dX1_nextPlace_16 (by decide) rfl ?_
              refine SW.iload (q := 20) (i := 6) dX1_nextPlace_18 rfl rfl ?_
              refine SW.bipush (q := 22) (v := (-6)) dX1_nextPlace_20 (by decide) rfl ?_
              refine SW.icmp_eq (q := 25) (tgt := 78) dX1_nextPlace_22 (by decide) rfl (fun c22 => absurd c22 ((nI_n6 (by omega)))) (fun _ => ?_)
              refine SW.aload_n (q := 26) (i := 2) dX1_nextPlace_25 rfl rfl rfl ?_
              refine SW.iload (q := 28) (i := 6) dX1_nextPlace_26 rfl rfl ?_
              refine SW.cF (q := 31) (C_X6_isPassable rfl (by omega)) vX1_104 (by decide) rfl rfl rfl rfl (Nat.le_of_ble_eq_true rfl) dX1_nextPlace_28 rfl ?_
              rw [hpd]
              refine SW.if_eq (q := 34) (tgt := 78) dX1_nextPlace_31 (by decide) rfl (fun c31 => absurd c31 ((by decide))) (fun _ => ?_)
              refine SW.aload_n (q := 35) (i := 0) dX1_nextPlace_34 rfl rfl rfl ?_
              refine SW.iload (q := 37) (i := 6) dX1_nextPlace_35 rfl rfl ?_
              refine SW.iload (q := 39) (i := 4) dX1_nextPlace_37 rfl rfl ?_
              refine SW.cF (q := 42) (C_X1_costOf (p := v0) (t := t) rfl rfl (by omega) ht6) vX1_125 (by decide) rfl rfl rfl rfl (Nat.le_of_ble_eq_true rfl) dX1_nextPlace_39 rfl ?_
              refine SW.bipush (q := 44) (v := (-6)) dX1_nextPlace_42 (by decide) rfl ?_
              refine SW.icmp_eq (q := 47) (tgt := 78) dX1_nextPlace_44 (by decide) rfl (fun c44 => absurd c44 ((by rw [lv]; exact nI_n6 (by omega)))) (fun _ => ?_)
              refine SW.aload_n (q := 48) (i := 0) dX1_nextPlace_47 rfl rfl rfl ?_
              refine SW.iload (q := 50) (i := 6) dX1_nextPlace_48 rfl rfl ?_
              refine SW.iload (q := 52) (i := 4) dX1_nextPlace_50 rfl rfl ?_
              refine SW.cF (q := 55) (C_X1_costOf (p := v0) (t := t) rfl rfl (by omega) ht6) vX1_125 (by decide) rfl rfl rfl rfl (Nat.le_of_ble_eq_true rfl) dX1_nextPlace_52 rfl ?_
              refine SW.aload_n (q := 56) (i := 0) dX1_nextPlace_55 rfl rfl rfl ?_
              refine SW.aload_n (q := 57) (i := 1) dX1_nextPlace_56 rfl rfl rfl ?_
              refine SW.aload_n (q := 58) (i := 2) dX1_nextPlace_57 rfl rfl rfl ?_
              refine SW.iload_n (q := 59) (i := 3) dX1_nextPlace_58 rfl rfl rfl ?_
              refine SW.iload (q := 61) (i := 6) dX1_nextPlace_59 rfl rfl ?_
              refine SW.cF (C_X1_stepCost (ht := h) (p := p) (q := v0) rfl rfl (by omega) (by omega) (hG.1.2 p hp) (hG.1.2 v0 vP) hG.2.2.1) vX1_110 (by decide) rfl rfl rfl rfl (Nat.le_of_ble_eq_true rfl) dX1_nextPlace_61 rfl ?_
              refine SW.iadd (q := 65) dX1_nextPlace_64 rfl ?_
              refine SW.aload_n (q := 66) (i := 0) dX1_nextPlace_65 rfl rfl rfl ?_
              refine SW.iload_n (q := 67) (i := 3) dX1_nextPlace_66 rfl rfl rfl ?_
              refine SW.iload (q := 69) (i := 4) dX1_nextPlace_67 rfl rfl ?_
              refine SW.cF (q := 72) (C_X1_costOf (p := p) (t := t) rfl rfl (by omega) ht6) vX1_125 (by decide) rfl rfl rfl rfl (Nat.le_of_ble_eq_true rfl) dX1_nextPlace_69 rfl ?_
              refine SW.icmp_ne (q := 75) (tgt := 78) dX1_nextPlace_72 (by decide) rfl (fun _ => ?_) (fun c72 => absurd c72 ((by rw [lv, cst]; exact lp)))
              refine SW.iinc (q := 81) (v := _ + 1) dX1_nextPlace_78 rfl rfl (by decide) rfl ?_
              refine SW.goto (q := 3) dX1_nextPlace_81 (by decide) ?_
              exact SW.eq (by rw [nI_1]; rfl) rfl rfl (skip (nx_bad nb3 g) _)
        · have hpd : decide (σ 48 v0 = 4 ∨ σ 48 v0 = 8) = false := decide_eq_false (by rw [hG.2.1]; exact hps)
          refine SW.iload (q := 5) (i := 5) dX1_nextPlace_3 rfl rfl ?_
          refine SW.iconst (q := 6) (v := 4) dX1_nextPlace_5 (by decide) rfl ?_
          refine SW.icmp_ge (q := 9) (tgt := 84) dX1_nextPlace_6 (by decide) rfl (fun c6 => absurd c6 ((nI_ge (a := e) (b := 4) (by omega) (by omega)))) (fun _ => ?_)
          refine SW.aload_n (q := 10) (i := 1) dX1_nextPlace_9 rfl rfl rfl ?_
          refine SW.iload_n (q := 11) (i := 3) dX1_nextPlace_10 rfl rfl rfl ?_
          refine SW.iload (q := 13) (i := 5) dX1_nextPlace_11 rfl rfl ?_
          refine SW.cF (q := 16) (C_X5_beside hG.1.1 rfl rfl hp (by omega)) vX1_100 (by decide) rfl rfl rfl rfl (Nat.le_of_ble_eq_true rfl) dX1_nextPlace_13 rfl ?_
          rw [hnb, vi]
          refine SW.istore (q := 18) (i := 6) dX1_nextPlace_16 (by decide) rfl ?_
          refine SW.iload (q := 20) (i := 6) dX1_nextPlace_18 rfl rfl ?_
          refine SW.bipush (q := 22) (v := (-6)) dX1_nextPlace_20 (by decide) rfl ?_
          refine SW.icmp_eq (q := 25) (tgt := 78) dX1_nextPlace_22 (by decide) rfl (fun c22 => absurd c22 ((nI_n6 (by omega)))) (fun _ => ?_)
          refine SW.aload_n (q := 26) (i := 2) dX1_nextPlace_25 rfl rfl rfl ?_
          refine SW.iload (q := 28) (i := 6) dX1_nextPlace_26 rfl rfl ?_
          refine SW.cF (q := 31) (C_X6_isPassable rfl (by omega)) vX1_104 (by decide) rfl rfl rfl rfl (Nat.le_of_ble_eq_true rfl) dX1_nextPlace_28 rfl ?_
          rw [hpd]
          refine SW.if_eq (q := 34) (tgt := 78) dX1_nextPlace_31 (by decide) rfl (fun _ => ?_) (fun c31 => absurd (rfl) c31)
          refine SW.iinc (q := 81) (v := _ + 1) dX1_nextPlace_78 rfl rfl (by decide) rfl ?_
          refine SW.goto (q := 3) dX1_nextPlace_81 (by decide) ?_
          exact SW.eq (by rw [nI_1]; rfl) rfl rfl (skip (nx_bad nb3 (fun z => hps z.1)) _)
  refine SW.iconst (q := 1) (v := 0) dX1_nextPlace_0 (by decide) rfl ?_
  refine SW.istore (q := 3) (i := 5) dX1_nextPlace_1 (by decide) rfl ?_
  exact loop 4 0 rfl rfl _
theorem C_X8_next (hG : rk_G n h kd br σ) (hbd : ∀ v c, d v = some c → c ≤ 300000) (hl : nt_lf n d σ) (hx : x = nI p) (hp : p < n * n) :
    sw_F X 2 mX8_next [.ref (sw_ad X 59), .int x] σ (gr_v (nt_nx n h kd br d p 4)) σ := by
  subst hx
  have n24 : n ≤ 24 := hG.1.2.1
  have h576 := gr_576 n24
  refine sw_ME.ofF (by decide +kernel) rfl (Nat.le_of_ble_eq_true rfl) rfl ?_
  have loop : ∀ (k : Nat), k ≤ 4 → ∀ e : Int32, e = nI 3 - nI k → ∀ B, SW X 2 mX8_next sw_E0 (sw_Ri (fun r u => r = gr_v (nt_nx n h kd br d p 4) ∧ u = σ)) 5 [.ref (sw_ad X 59), .int (nI p), .int (gr_v (nt_nx n h kd br d p k)), .int e, B] [] σ := by
    have : ∀ (j k : Nat), k + j = 4 → ∀ e : Int32, e = nI 3 - nI k → ∀ B, SW X 2 mX8_next sw_E0 (sw_Ri (fun r u => r = gr_v (nt_nx n h kd br d p 4) ∧ u = σ)) 5 [.ref (sw_ad X 59), .int (nI p), .int (gr_v (nt_nx n h kd br d p k)), .int e, B] [] σ := by
      intro j
      induction j with
      | zero =>
        rintro k hk e rfl B
        obtain rfl : k = 4 := by omega
        refine SW.iload_n (q := 6) (i := 3) dX8_next_5 rfl rfl rfl ?_
        refine SW.if_lt (q := 9) (tgt := 78) dX8_next_6 (by decide) rfl (fun _ => ?_) (fun c6 => absurd ((by decide)) c6)
        refine SW.iload_n (q := 79) (i := 2) dX8_next_78 rfl rfl rfl ?_
        refine SW.iretR rfl rfl dX8_next_79 ?_
        exact ⟨rfl, rfl⟩
      | succ j ih =>
        rintro k hk e rfl B
        have e3 : nI 3 - nI k = nI (3 - k) := by
          have : k = 0 ∨ k = 1 ∨ k = 2 ∨ k = 3 := by omega
          rcases this with rfl | rfl | rfl | rfl <;> decide
        have e4 : nI (3 - k) + (-1) = nI 3 - nI (k + 1) := by
          have : k = 0 ∨ k = 1 ∨ k = 2 ∨ k = 3 := by omega
          rcases this with rfl | rfl | rfl | rfl <;> decide
        rw [e3]
        have skip : nt_nx n h kd br d p (k + 1) = nt_nx n h kd br d p k → ∀ B, SW X 2 mX8_next sw_E0 (sw_Ri (fun r u => r = gr_v (nt_nx n h kd br d p 4) ∧ u = σ)) 5 [.ref (sw_ad X 59), .int (nI p), .int (gr_v (nt_nx n h kd br d p k)), .int (nI 3 - nI (k + 1)), B] [] σ := by
          intro z B
          rw [← z]
          exact ih (k + 1) (by omega) _ rfl B
        cases hnb : gr_nb n p (3 - k) with
        | none =>
          refine SW.iload_n (q := 6) (i := 3) dX8_next_5 rfl rfl rfl ?_
          refine SW.if_lt (q := 9) (tgt := 78) dX8_next_6 (by decide) rfl (fun c6 => absurd c6 ((nI_pos (by omega)))) (fun _ => ?_)
          refine SW.aload_n (q := 10) (i := 0) dX8_next_9 rfl rfl rfl ?_
          refine SW.iload_n (q := 11) (i := 1) dX8_next_10 rfl rfl rfl ?_
          refine SW.iload_n (q := 12) (i := 3) dX8_next_11 rfl rfl rfl ?_
          refine SW.cF (q := 15) (C_X8_beside hG.1 rfl rfl hp (by omega)) vX8_114 (by decide) rfl rfl rfl rfl (Nat.le_of_ble_eq_true rfl) dX8_next_12 rfl ?_
          rw [hnb]
          refine SW.istore (q := 17) (i := 4) dX8_next_15 (by decide) rfl ?_
          refine SW.iload (q := 19) (i := 4) dX8_next_17 rfl rfl ?_
          refine SW.if_lt (q := 22) (tgt := 70) dX8_next_19 (by decide) rfl (fun _ => ?_) (fun c19 => absurd ((by decide)) c19)
          refine SW.iload_n (q := 71) (i := 2) dX8_next_70 rfl rfl rfl ?_
          refine SW.istore_n (q := 72) (i := 2) dX8_next_71 rfl (by decide) rfl ?_
          refine SW.iinc (q := 75) (v := _ + (-1)) dX8_next_72 rfl rfl (by decide) rfl ?_
          refine SW.goto (q := 5) dX8_next_75 (by decide) ?_
          exact SW.eq (by rw [← e4]; rfl) rfl rfl (skip (nx_none hnb) _)
        | some v0 =>
          have vP := (gr_nb_lt hp hnb).1
          have vi : gr_v (some v0) = nI v0 := rfl
          have hst := nt_st_le (ht := h) (kd := kd) (br := br) (p := p) (q := v0) (hG.2.1 p hp).2 (hG.2.1 v0 vP).2 hG.2.2.2.2.1
          have e70 : σ 70 = kd := hG.2.2.1
          by_cases hps : nt_pass kd v0
          · have hpd : decide (4 ≤ σ 70 v0) = true := decide_eq_true (by rw [e70]; exact (hG.2.2.2.2.2 v0 vP).mpr hps)
            cases hd : d v0 with
            | none =>
              have bad : ¬ nt_good h kd br d p v0 := by rintro ⟨-, c, z, -⟩; rw [hd] at z; cases z
              refine SW.iload_n (q := 6) (i := 3) dX8_next_5 rfl rfl rfl ?_
              refine SW.if_lt (q := 9) (tgt := 78) dX8_next_6 (by decide) rfl (fun c6 => absurd c6 ((nI_pos (by omega)))) (fun _ => ?_)
              refine SW.aload_n (q := 10) (i := 0) dX8_next_9 rfl rfl rfl ?_
              refine SW.iload_n (q := 11) (i := 1) dX8_next_10 rfl rfl rfl ?_
              refine SW.iload_n (q := 12) (i := 3) dX8_next_11 rfl rfl rfl ?_
              refine SW.cF (q := 15) (C_X8_beside hG.1 rfl rfl hp (by omega)) vX8_114 (by decide) rfl rfl rfl rfl (Nat.le_of_ble_eq_true rfl) dX8_next_12 rfl ?_
              rw [hnb, vi]
              refine SW.istore (q := 17) (i := 4) dX8_next_15 (by decide) rfl ?_
              refine SW.iload (q := 19) (i := 4) dX8_next_17 rfl rfl ?_
              refine SW.if_lt (q := 22) (tgt := 70) dX8_next_19 (by decide) rfl (fun c19 => absurd c19 ((nI_pos (by omega)))) (fun _ => ?_)
              refine SW.aload_n (q := 23) (i := 0) dX8_next_22 rfl rfl rfl ?_
              refine SW.iload (q := 25) (i := 4) dX8_next_23 rfl rfl ?_
              refine SW.cF (q := 28) (C_X8_isWay (p := v0) rfl (by omega)) vX8_146 (by decide) rfl rfl rfl rfl (Nat.le_of_ble_eq_true rfl) dX8_next_25 rfl ?_
              rw [hpd]
              refine SW.if_eq (q := 31) (tgt := 70) dX8_next_28 (by decide) rfl (fun c28 => absurd c28 ((by decide))) (fun _ => ?_)
              refine SW.aload_n (q := 32) (i := 0) dX8_next_31 rfl rfl rfl ?_
              refine SW.getR (q := 35) (i := 59) (j := 75) fX8_59 rfl rfl dX8_next_32 rfl ?_
              refine SW.iload (q := 37) (i := 4) dX8_next_35 rfl rfl ?_
              refine SW.ialdN (q := 38) (k := v0) rfl (rfl) (by omega) (by decide) dX8_next_37 rfl ?_
              refine SW.if_lt (q := 41) (tgt := 70) dX8_next_38 (by decide) rfl (fun _ => ?_) (fun c38 => absurd ((by rw [hl v0 vP, hd]; decide)) c38)
              refine SW.iload_n (q := 71) (i := 2) dX8_next_70 rfl rfl rfl ?_
              refine SW.istore_n (q := 72) (i := 2) dX8_next_71 rfl (by decide) rfl ?_
              refine SW.iinc (q := 75) (v := _ + (-1)) dX8_next_72 rfl rfl (by decide) rfl ?_
              refine SW.goto (q := 5) dX8_next_75 (by decide) ?_
              exact SW.eq (by rw [← e4]; rfl) rfl rfl (skip (nx_bad hnb bad) _)
            | some c0 =>
              have c0b := hbd v0 c0 hd
              have lv : σ 75 v0 = nI c0 := by rw [hl v0 vP, hd]; rfl
              have cst : nI c0 + nI (nt_st h (σ 70) br p v0) = nI (c0 + nt_st h kd br p v0) := by rw [nI_add, e70]
              by_cases g : nt_good h kd br d p v0
              · have lp : σ 75 p = nI (c0 + nt_st h kd br p v0) := by
                  obtain ⟨-, c, z1, z2⟩ := g
                  rw [hd] at z1; cases z1
                  rw [hl p hp, z2]; rfl
                refine SW.iload_n (q := 6) (i := 3) dX8_next_5 rfl rfl rfl ?_
                refine SW.if_lt (q := 9) (tgt := 78) dX8_next_6 (by decide) rfl (fun c6 => absurd c6 ((nI_pos (by omega)))) (fun _ => ?_)
                refine SW.aload_n (q := 10) (i := 0) dX8_next_9 rfl rfl rfl ?_
                refine SW.iload_n (q := 11) (i := 1) dX8_next_10 rfl rfl rfl ?_
                refine SW.iload_n (q := 12) (i := 3) dX8_next_11 rfl rfl rfl ?_
                refine SW.cF (q := 15) (C_X8_beside hG.1 rfl rfl hp (by omega)) vX8_114 (by decide) rfl rfl rfl rfl (Nat.le_of_ble_eq_true rfl) dX8_next_12 rfl ?_
                rw [hnb, vi]
                refine SW.istore (q := 17) (i := 4) dX8_next_15 (by decide) rfl ?_
                refine SW.iload (q := 19) (i := 4) dX8_next_17 rfl rfl ?_
                refine SW.if_lt (q := 22) (tgt := 70) dX8_next_19 (by decide) rfl (fun c19 => absurd c19 ((nI_pos (by omega)))) (fun _ => ?_)
                refine SW.aload_n (q := 23) (i := 0) dX8_next_22 rfl rfl rfl ?_
                refine SW.iload (q := 25) (i := 4) dX8_next_23 rfl rfl ?_
                refine SW.cF (q := 28) (C_X8_isWay (p := v0) rfl (by omega)) vX8_146 (by decide) rfl rfl rfl rfl (Nat.le_of_ble_eq_true rfl) dX8_next_25 rfl ?_
                rw [hpd]
                refine SW.if_eq (q := 31) (tgt := 70) dX8_next_28 (by decide) rfl (fun c28 => absurd c28 ((by decide))) (fun _ => ?_)
                refine SW.aload_n (q := 32) (i := 0) dX8_next_31 rfl rfl rfl ?_
                refine SW.getR (q := 35) (i := 59) (j := 75) fX8_59 rfl rfl dX8_next_32 rfl ?_
                refine SW.iload (q := 37) (i := 4) dX8_next_35 rfl rfl ?_
                refine SW.ialdN (q := 38) (k := v0) rfl (rfl) (by omega) (by decide) dX8_next_37 rfl ?_
                refine SW.if_lt (q := 41) (tgt := 70) dX8_next_38 (by decide) rfl (fun c38 => absurd c38 ((by rw [lv]; exact nI_pos (by omega)))) (fun _ => ?_)
                refine SW.aload_n (q := 42) (i := 0) dX8_next_41 rfl rfl rfl ?_
                refine SW.getR (q := 45) (i := 59) (j := 75) fX8_59 rfl rfl dX8_next_42 rfl ?_
                refine SW.iload (q := 47) (i := 4) dX8_next_45 rfl rfl ?_
                refine SW.ialdN (q := 48) (k := v0) rfl (rfl) (by omega) (by decide) dX8_next_47 rfl ?_
                refine SW.aload_n (q := 49) (i := 0) dX8_next_48 rfl rfl rfl ?_
                refine SW.iload_n (q := 50) (i := 1) dX8_next_49 rfl rfl rfl ?_
                refine SW.iload (q := 52) (i := 4) dX8_next_50 rfl rfl ?_
                refine SW.cF (C_X8_stepCost (ht := h) (p := p) (q := v0) rfl rfl (by omega) (by omega) (hG.2.1 p hp) (hG.2.1 v0 vP) hG.2.2.2.1) vX8_149 (by decide) rfl rfl rfl rfl (Nat.le_of_ble_eq_true rfl) dX8_next_52 rfl ?_
                refine SW.iadd (q := 56) dX8_next_55 rfl ?_
                refine SW.aload_n (q := 57) (i := 0) dX8_next_56 rfl rfl rfl ?_
                refine SW.getR (q := 60) (i := 59) (j := 75) fX8_59 rfl rfl dX8_next_57 rfl ?_
                refine SW.iload_n (q := 61) (i := 1) dX8_next_60 rfl rfl rfl ?_
                refine SW.ialdN (q := 62) (k := p) rfl (rfl) (by omega) (by decide) dX8_next_61 rfl ?_
                refine SW.icmp_ne (q := 65) (tgt := 70) dX8_next_62 (by decide) rfl (fun c62 => absurd ((by rw [lv, lp, cst])) c62) (fun _ => ?_)
                refine SW.iload (q := 67) (i := 4) dX8_next_65 rfl rfl ?_
                refine SW.goto (q := 71) dX8_next_67 (by decide) ?_
                refine SW.istore_n (q := 72) (i := 2) dX8_next_71 rfl (by decide) rfl ?_
                refine SW.iinc (q := 75) (v := _ + (-1)) dX8_next_72 rfl rfl (by decide) rfl ?_
                refine SW.goto (q := 5) dX8_next_75 (by decide) ?_
                have := ih (k + 1) (by omega) _ rfl (.int (nI v0))
                rw [nx_good hnb g] at this
                exact SW.eq (by rw [← e4]; rfl) rfl rfl this
              · have lp : ¬ nI (c0 + nt_st h kd br p v0) = σ 75 p := by
                  rw [hl p hp]
                  cases hdp : d p with
                  | none => exact fun z => absurd (nI_pos (n := c0 + nt_st h kd br p v0) (by omega)) (by rw [z]; decide)
                  | some c1 =>
                    have c1b := hbd p c1 hdp
                    show ¬ nI _ = nI c1
                    rw [nI_eq (by omega) (by omega)]
                    intro z
                    exact g ⟨hps, c0, hd, by rw [hdp, z]⟩
                refine SW.iload_n (q := 6) (i := 3) dX8_next_5 rfl rfl rfl ?_
                refine SW.if_lt (q := 9) (tgt := 78) dX8_next_6 (by decide) rfl (fun c6 => absurd c6 ((nI_pos (by omega)))) (fun _ => ?_)
                refine SW.aload_n (q := 10) (i := 0) dX8_next_9 rfl rfl rfl ?_
                refine SW.iload_n (q := 11) (i := 1) dX8_next_10 rfl rfl rfl ?_
                refine SW.iload_n (q := 12) (i := 3) dX8_next_11 rfl rfl rfl ?_
                refine SW.cF (q := 15) (C_X8_beside hG.1 rfl rfl hp (by omega)) vX8_114 (by decide) rfl rfl rfl rfl (Nat.le_of_ble_eq_true rfl) dX8_next_12 rfl ?_
                rw [hnb, vi]
                refine SW.istore (q := 17) (i := 4) dX8_next_15 (by decide) rfl ?_
                refine SW.iload (q := 19) (i := 4) dX8_next_17 rfl rfl ?_
                refine SW.if_lt (q := 22) (tgt := 70) dX8_next_19 (by decide) rfl (fun c19 => absurd c19 ((nI_pos (by omega)))) (fun _ => ?_)
                refine SW.aload_n (q := 23) (i := 0) dX8_next_22 rfl rfl rfl ?_
                refine SW.iload (q := 25) (i := 4) dX8_next_23 rfl rfl ?_
                refine SW.cF (q := 28) (C_X8_isWay (p := v0) rfl (by omega)) vX8_146 (by decide) rfl rfl rfl rfl (Nat.le_of_ble_eq_true rfl) dX8_next_25 rfl ?_
                rw [hpd]
                refine SW.if_eq (q := 31) (tgt := 70) dX8_next_28 (by decide) rfl (fun c28 => absurd c28 ((by decide))) (fun _ => ?_)
                refine SW.aload_n (q := 32) (i := 0) dX8_next_31 rfl rfl rfl ?_
                refine SW.getR (q := 35) (i := 59) (j := 75) fX8_59 rfl rfl dX8_next_32 rfl ?_
                refine SW.iload (q := 37) (i := 4) dX8_next_35 rfl rfl ?_
                refine SW.ialdN (q := 38) (k := v0) rfl (rfl) (by omega) (by decide) dX8_next_37 rfl ?_
                refine SW.if_lt (q := 41) (tgt := 70) dX8_next_38 (by decide) rfl (fun c38 => absurd c38 ((by rw [lv]; exact nI_pos (by omega)))) (fun _ => ?_)
                refine SW.aload_n (q := 42) (i := 0) dX8_next_41 rfl rfl rfl ?_
                refine SW.getR (q := 45) (i := 59) (j := 75) fX8_59 rfl rfl dX8_next_42 rfl ?_
                refine SW.iload (q := 47) (i := 4) dX8_next_45 rfl rfl ?_
                refine SW.ialdN (q := 48) (k := v0) rfl (rfl) (by omega) (by decide) dX8_next_47 rfl ?_
                refine SW.aload_n (q := 49) (i := 0) dX8_next_48 rfl rfl rfl ?_
                refine SW.iload_n (q := 50) (i := 1) dX8_next_49 rfl rfl rfl ?_
                refine SW.iload (q := 52) (i := 4) dX8_next_50 rfl rfl ?_
                refine SW.cF (C_X8_stepCost (ht := h) (p := p) (q := v0) rfl rfl (by omega) (by omega) (hG.2.1 p hp) (hG.2.1 v0 vP) hG.2.2.2.1) vX8_149 (by decide) rfl rfl rfl rfl (Nat.le_of_ble_eq_true rfl) dX8_next_52 rfl ?_
                refine SW.iadd (q := 56) dX8_next_55 rfl ?_
                refine SW.aload_n (q := 57) (i := 0) dX8_next_56 rfl rfl rfl ?_
                refine SW.getR (q := 60) (i := 59) (j := 75) fX8_59 rfl rfl dX8_next_57 rfl ?_
                refine SW.iload_n (q := 61) (i := 1) dX8_next_60 rfl rfl rfl ?_
                refine SW.ialdN (q := 62) (k := p) rfl (rfl) (by omega) (by decide) dX8_next_61 rfl ?_
                refine SW.icmp_ne (q := 65) (tgt := 70) dX8_next_62 (by decide) rfl (fun _ => ?_) (fun c62 => absurd c62 ((by rw [lv, cst]; exact lp)))
                refine SW.iload_n (q := 71) (i := 2) dX8_next_70 rfl rfl rfl ?_
                refine SW.istore_n (q := 72) (i := 2) dX8_next_71 rfl (by decide) rfl ?_
                refine SW.iinc (q := 75) (v := _ + (-1)) dX8_next_72 rfl rfl (by decide) rfl ?_
                refine SW.goto (q := 5) dX8_next_75 (by decide) ?_
                exact SW.eq (by rw [← e4]; rfl) rfl rfl (skip (nx_bad hnb g) _)
          · have hpd : decide (4 ≤ σ 70 v0) = false := decide_eq_false (by rw [e70]; exact fun z => hps ((hG.2.2.2.2.2 v0 vP).mp z))
            refine SW.iload_n (q := 6) (i := 3) dX8_next_5 rfl rfl rfl ?_
            refine SW.if_lt (q := 9) (tgt := 78) dX8_next_6 (by decide) rfl (fun c6 => absurd c6 ((nI_pos (by omega)))) (fun _ => ?_)
            refine SW.aload_n (q := 10) (i := 0) dX8_next_9 rfl rfl rfl ?_
            refine SW.iload_n (q := 11) (i := 1) dX8_next_10 rfl rfl rfl ?_
            refine SW.iload_n (q := 12) (i := 3) dX8_next_11 rfl rfl rfl ?_
            refine SW.cF (q := 15) (C_X8_beside hG.1 rfl rfl hp (by omega)) vX8_114 (by decide) rfl rfl rfl rfl (Nat.le_of_ble_eq_true rfl) dX8_next_12 rfl ?_
            rw [hnb, vi]
            refine SW.istore (q := 17) (i := 4) dX8_next_15 (by decide) rfl ?_
            refine SW.iload (q := 19) (i := 4) dX8_next_17 rfl rfl ?_
            refine SW.if_lt (q := 22) (tgt := 70) dX8_next_19 (by decide) rfl (fun c19 => absurd c19 ((nI_pos (by omega)))) (fun _ => ?_)
            refine SW.aload_n (q := 23) (i := 0) dX8_next_22 rfl rfl rfl ?_
            refine SW.iload (q := 25) (i := 4) dX8_next_23 rfl rfl ?_
            refine SW.cF (q := 28) (C_X8_isWay (p := v0) rfl (by omega)) vX8_146 (by decide) rfl rfl rfl rfl (Nat.le_of_ble_eq_true rfl) dX8_next_25 rfl ?_
            rw [hpd]
            refine SW.if_eq (q := 31) (tgt := 70) dX8_next_28 (by decide) rfl (fun _ => ?_) (fun c28 => absurd (rfl) c28)
            refine SW.iload_n (q := 71) (i := 2) dX8_next_70 rfl rfl rfl ?_
            refine SW.istore_n (q := 72) (i := 2) dX8_next_71 rfl (by decide) rfl ?_
            refine SW.iinc (q := 75) (v := _ + (-1)) dX8_next_72 rfl rfl (by decide) rfl ?_
            refine SW.goto (q := 5) dX8_next_75 (by decide) ?_
            exact SW.eq (by rw [← e4]; rfl) rfl rfl (skip (nx_bad hnb (fun z => hps z.1)) _)
    intro k hk
    exact this (4 - k) k (by omega)
  refine SW.bipush (q := 2) (v := (-6)) dX8_next_0 (by decide) rfl ?_
  refine SW.istore_n (q := 3) (i := 2) dX8_next_2 rfl (by decide) rfl ?_
  refine SW.iconst (q := 4) (v := 3) dX8_next_3 (by decide) rfl ?_
  refine SW.istore_n (q := 5) (i := 3) dX8_next_4 rfl (by decide) rfl ?_
  exact loop 0 (by omega) 3 (by decide) _
theorem C_X1_placeOfWay {i : Int32} (hG : nk_G n h kd br σ) (ht6 : t < 6) (hbd : ∀ v c, d v = some c → c ≤ 300000) (hl : nt_lab n t d σ) (hx : x = nI p) (hp : p < n * n) (hy : y = nI t) :
    sw_F X 3 mX1_placeOfWay [.ref (sw_ad X 5), .ref (sw_ad X 1), .ref (sw_ad X 2), .int x, .int y, .int i] σ (if i < 0 ∨ d p = none then -6 else gr_v (nt_wy (fun a => nt_nx n h kd br d a 4) (i.toInt.toNat) (some p))) σ := by
  subst hx; subst hy
  have n24 : n ≤ 24 := hG.1.1.2.1
  have h576 := gr_576 n24
  have hpl : σ 1 2 = nI (n * n) := hG.1.1.2.2.2.1
  refine sw_ME.ofF (by decide +kernel) rfl (Nat.le_of_ble_eq_true rfl) rfl ?_
  by_cases i0 : i < 0
  · refine SW.iload (q := 2) (i := 5) dX1_placeOfWay_0 rfl rfl ?_
    refine SW.if_lt (q := 5) (tgt := 26) dX1_placeOfWay_2 (by decide) rfl (fun _ => ?_) (fun c2 => absurd (i0) c2)
    refine SW.bipush (q := 28) (v := (-6)) dX1_placeOfWay_26 (by decide) rfl ?_
    refine SW.iretR rfl rfl dX1_placeOfWay_28 ?_
    exact ⟨by rw [if_pos (Or.inl i0)], rfl⟩
  · obtain ⟨j, rfl, hj⟩ : ∃ j, i = nI j ∧ j < 2 ^ 31 := by
      have h1 := Int32.toInt_lt i
      have h0 : 0 ≤ i.toInt := i_le.mp (Int32.not_lt.mp i0)
      refine ⟨i.toInt.toNat, ?_, by omega⟩
      apply Int32.toInt_inj.mp
      rw [nI_toInt (by omega)]
      omega
    have ej : (nI j).toInt.toNat = j := by rw [nI_toInt hj]; rfl
    rw [ej]
    by_cases hjn : j < n * n
    · cases hd : d p with
      | none =>
        refine SW.iload (q := 2) (i := 5) dX1_placeOfWay_0 rfl rfl ?_
        refine SW.if_lt (q := 5) (tgt := 26) dX1_placeOfWay_2 (by decide) rfl (fun c2 => absurd c2 (i0)) (fun _ => ?_)
        refine SW.iload (q := 7) (i := 5) dX1_placeOfWay_5 rfl rfl ?_
        refine SW.aload_n (q := 8) (i := 1) dX1_placeOfWay_7 rfl rfl rfl ?_
        refine SW.getI (q := 11) (i := 1) fX1_73 rfl rfl dX1_placeOfWay_8 rfl ?_
        refine SW.icmp_ge (q := 14) (tgt := 26) dX1_placeOfWay_11 (by decide) rfl (fun c11 => absurd c11 ((by rw [hpl]; exact nI_ge hjn (by omega)))) (fun _ => ?_)
        refine SW.aload_n (q := 15) (i := 0) dX1_placeOfWay_14 rfl rfl rfl ?_
        refine SW.iload_n (q := 16) (i := 3) dX1_placeOfWay_15 rfl rfl rfl ?_
        refine SW.iload (q := 18) (i := 4) dX1_placeOfWay_16 rfl rfl ?_
        refine SW.cF (q := 21) (C_X1_costOf (p := p) (t := t) rfl rfl (by omega) ht6) vX1_125 (by decide) rfl rfl rfl rfl (Nat.le_of_ble_eq_true rfl) dX1_placeOfWay_18 rfl ?_
        refine SW.bipush (q := 23) (v := (-6)) dX1_placeOfWay_21 (by decide) rfl ?_
        refine SW.icmp_ne (q := 26) (tgt := 29) dX1_placeOfWay_23 (by decide) rfl (fun c23 => absurd ((by rw [hl p hp, hd]; rfl)) c23) (fun _ => ?_)
        refine SW.bipush (q := 28) (v := (-6)) dX1_placeOfWay_26 (by decide) rfl ?_
        refine SW.iretR rfl rfl dX1_placeOfWay_28 ?_
        exact ⟨by rw [if_pos (Or.inr rfl)], rfl⟩
      | some c =>
        have cb := hbd p c hd
        have loop : ∀ (k a : Nat), a + k = j → ∀ o : Option Nat, (∀ b, o = some b → b < n * n) → SW X 3 mX1_placeOfWay sw_E0 (sw_Ri (fun r u => r = gr_v (nt_wy (fun a => nt_nx n h kd br d a 4) k o) ∧ u = σ)) 35 [.ref (sw_ad X 5), .ref (sw_ad X 1), .ref (sw_ad X 2), .int (nI p), .int (nI t), .int (nI j), .int (gr_v o), .int (nI a)] [] σ := by
          intro k
          induction k with
          | zero =>
            intro a ha o ho
            obtain rfl : a = j := by omega
            refine SW.iload (q := 37) (i := 7) dX1_placeOfWay_35 rfl rfl ?_
            refine SW.iload (q := 39) (i := 5) dX1_placeOfWay_37 rfl rfl ?_
            refine SW.icmp_ge (q := 42) (tgt := 67) dX1_placeOfWay_39 (by decide) rfl (fun _ => ?_) (fun c39 => absurd ((Int32.le_refl _)) c39)
            refine SW.iload (q := 69) (i := 6) dX1_placeOfWay_67 rfl rfl ?_
            refine SW.iretR rfl rfl dX1_placeOfWay_69 ?_
            exact ⟨rfl, rfl⟩
          | succ k ih =>
            intro a ha o ho
            cases o with
            | none =>
              refine SW.iload (q := 37) (i := 7) dX1_placeOfWay_35 rfl rfl ?_
              refine SW.iload (q := 39) (i := 5) dX1_placeOfWay_37 rfl rfl ?_
              refine SW.icmp_ge (q := 42) (tgt := 67) dX1_placeOfWay_39 (by decide) rfl (fun c39 => absurd c39 ((nI_ge (by omega) (by omega)))) (fun _ => ?_)
              refine SW.iload (q := 44) (i := 6) dX1_placeOfWay_42 rfl rfl ?_
              refine SW.bipush (q := 46) (v := (-6)) dX1_placeOfWay_44 (by decide) rfl ?_
              refine SW.icmp_eq (q := 49) (tgt := 67) dX1_placeOfWay_46 (by decide) rfl (fun _ => ?_) (fun c46 => absurd (rfl) c46)
              refine SW.iload (q := 69) (i := 6) dX1_placeOfWay_67 rfl rfl ?_
              refine SW.iretR rfl rfl dX1_placeOfWay_69 ?_
              exact ⟨by rw [wy_none], rfl⟩
            | some b =>
              have hb := ho b rfl
              have bi : gr_v (some b) = nI b := rfl
              refine SW.iload (q := 37) (i := 7) dX1_placeOfWay_35 rfl rfl ?_
              refine SW.iload (q := 39) (i := 5) dX1_placeOfWay_37 rfl rfl ?_
              refine SW.icmp_ge (q := 42) (tgt := 67) dX1_placeOfWay_39 (by decide) rfl (fun c39 => absurd c39 ((nI_ge (by omega) (by omega)))) (fun _ => ?_)
              refine SW.iload (q := 44) (i := 6) dX1_placeOfWay_42 rfl rfl ?_
              refine SW.bipush (q := 46) (v := (-6)) dX1_placeOfWay_44 (by decide) rfl ?_
              refine SW.icmp_eq (q := 49) (tgt := 67) dX1_placeOfWay_46 (by decide) rfl (fun c46 => absurd c46 ((by rw [bi]; exact nI_n6 (by omega)))) (fun _ => ?_)
              refine SW.aload_n (q := 50) (i := 0) dX1_placeOfWay_49 rfl rfl rfl ?_
              refine SW.aload_n (q := 51) (i := 1) dX1_placeOfWay_50 rfl rfl rfl ?_
              refine SW.aload_n (q := 52) (i := 2) dX1_placeOfWay_51 rfl rfl rfl ?_
              refine SW.iload (q := 54) (i := 6) dX1_placeOfWay_52 rfl rfl ?_
              refine SW.iload (q := 56) (i := 4) dX1_placeOfWay_54 rfl rfl ?_
              refine SW.cF (q := 59) (C_X1_nextPlace hG ht6 hbd hl bi hb rfl) vX1_128 (by decide) rfl rfl rfl rfl (Nat.le_of_ble_eq_true rfl) dX1_placeOfWay_56 rfl ?_
              refine SW.istore (q := 61) (i := 6) dX1_placeOfWay_59 (by decide) rfl ?_
              refine SW.iinc (q := 64) (v := _ + 1) dX1_placeOfWay_61 rfl rfl (by decide) rfl ?_
              refine SW.goto (q := 35) dX1_placeOfWay_64 (by decide) ?_
              exact SW.eq (by rw [nI_1]; rfl) rfl rfl (ih (a + 1) (by omega) _ (fun w hw => nx_lt b w hb hw))
        refine SW.iload (q := 2) (i := 5) dX1_placeOfWay_0 rfl rfl ?_
        refine SW.if_lt (q := 5) (tgt := 26) dX1_placeOfWay_2 (by decide) rfl (fun c2 => absurd c2 (i0)) (fun _ => ?_)
        refine SW.iload (q := 7) (i := 5) dX1_placeOfWay_5 rfl rfl ?_
        refine SW.aload_n (q := 8) (i := 1) dX1_placeOfWay_7 rfl rfl rfl ?_
        refine SW.getI (q := 11) (i := 1) fX1_73 rfl rfl dX1_placeOfWay_8 rfl ?_
        refine SW.icmp_ge (q := 14) (tgt := 26) dX1_placeOfWay_11 (by decide) rfl (fun c11 => absurd c11 ((by rw [hpl]; exact nI_ge hjn (by omega)))) (fun _ => ?_)
        refine SW.aload_n (q := 15) (i := 0) dX1_placeOfWay_14 rfl rfl rfl ?_
        refine SW.iload_n (q := 16) (i := 3) dX1_placeOfWay_15 rfl rfl rfl ?_
        refine SW.iload (q := 18) (i := 4) dX1_placeOfWay_16 rfl rfl ?_
        refine SW.cF (q := 21) (C_X1_costOf (p := p) (t := t) rfl rfl (by omega) ht6) vX1_125 (by decide) rfl rfl rfl rfl (Nat.le_of_ble_eq_true rfl) dX1_placeOfWay_18 rfl ?_
        refine SW.bipush (q := 23) (v := (-6)) dX1_placeOfWay_21 (by decide) rfl ?_
        refine SW.icmp_ne (q := 26) (tgt := 29) dX1_placeOfWay_23 (by decide) rfl (fun _ => ?_) (fun c23 => absurd c23 ((by rw [hl p hp, hd]; exact nI_n6 (by omega))))
        refine SW.iload_n (q := 30) (i := 3) dX1_placeOfWay_29 rfl rfl rfl ?_
        refine SW.istore (q := 32) (i := 6) dX1_placeOfWay_30 (by decide) rfl ?_
        refine SW.iconst (q := 33) (v := 0) dX1_placeOfWay_32 (by decide) rfl ?_
        refine SW.istore (q := 35) (i := 7) dX1_placeOfWay_33 (by decide) rfl ?_
        rw [if_neg (fun z => z.elim i0 (fun e => by cases e))]
        exact loop j 0 (by omega) (some p) (fun b hb => by cases hb; exact hp)
    · have wn : nt_wy (fun a => nt_nx n h kd br d a 4) j (some p) = none := by
        have e := wy_end (n := n) (d := d) (N := fun a => nt_nx n h kd br d a 4) nx_fall nx_lt hp
        cases z : nt_wy (fun a => nt_nx n h kd br d a 4) j (some p) with
        | none => rfl
        | some b =>
          obtain ⟨a, ha⟩ := wy_mid (fun a => nt_nx n h kd br d a 4) (o := some p) (j - n * n) (n * n) ⟨b, by rw [show n * n + (j - n * n) = j by omega]; exact z⟩
          rw [e] at ha; cases ha
      refine SW.iload (q := 2) (i := 5) dX1_placeOfWay_0 rfl rfl ?_
      refine SW.if_lt (q := 5) (tgt := 26) dX1_placeOfWay_2 (by decide) rfl (fun c2 => absurd c2 (i0)) (fun _ => ?_)
      refine SW.iload (q := 7) (i := 5) dX1_placeOfWay_5 rfl rfl ?_
      refine SW.aload_n (q := 8) (i := 1) dX1_placeOfWay_7 rfl rfl rfl ?_
      refine SW.getI (q := 11) (i := 1) fX1_73 rfl rfl dX1_placeOfWay_8 rfl ?_
      refine SW.icmp_ge (q := 14) (tgt := 26) dX1_placeOfWay_11 (by decide) rfl (fun _ => ?_) (fun c11 => absurd ((by rw [hpl]; exact nI_le (by omega) (by omega))) c11)
      refine SW.bipush (q := 28) (v := (-6)) dX1_placeOfWay_26 (by decide) rfl ?_
      refine SW.iretR rfl rfl dX1_placeOfWay_28 ?_
      refine ⟨?_, rfl⟩
      split
      · rfl
      · rw [wn]; rfl
end NEXT
