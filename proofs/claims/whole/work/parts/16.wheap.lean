/-! WATER in the class: keys in the heap, and the least level beside a place -/
def wl_adj (n q r : Nat) : Prop := ∃ e, e < 4 ∧ gr_nb n q e = some r
def wl_least (n : Nat) (S : Nat → Prop) (lv : Nat → Nat) (q m : Nat) : Prop := (∃ r, wl_adj n q r ∧ S r ∧ lv r = m) ∧ ∀ r, wl_adj n q r → S r → m ≤ lv r
def wl_key (r q : Nat) : Int32 := nI (r * 1024 + q)
theorem gr_nb_lt {n p e q : Nat} (hp : p < n * n) (h : gr_nb n p e = some q) : q < n * n ∧ q ≠ p ∧ e < 4 := by
  obtain ⟨l1, l2, l3⟩ := gr_lt hp
  have hpp := gr_pp (n := n) (p := p)
  match e, h with
  | 0, h =>
    simp only [gr_nb] at h
    split at h
    · rename_i a; have := gr_pn a; cases h; omega
    · cases h
  | 1, h =>
    simp only [gr_nb] at h
    split at h
    · rename_i a
      cases h
      have : p % n ≤ p := Nat.mod_le _ _
      omega
    · cases h
  | 2, h =>
    simp only [gr_nb] at h
    split at h
    · rename_i a
      cases h
      have := gr_in (n := n) (x := p % n + 1) (y := p / n) (by omega) l1
      omega
    · cases h
  | 3, h =>
    simp only [gr_nb] at h
    split at h
    · rename_i a
      cases h
      have := gr_in (n := n) (x := p % n) (y := p / n + 1) l2 (by omega)
      rw [Nat.mul_add, Nat.mul_one] at this
      omega
    · cases h
  | k + 4, h => simp [gr_nb] at h
theorem gr_nb_sym {n p e q : Nat} (hp : p < n * n) (h : gr_nb n p e = some q) : gr_nb n q (3 - e) = some p := by
  obtain ⟨l1, l2, l3⟩ := gr_lt hp
  have hpp := gr_pp (n := n) (p := p)
  match e, h with
  | 0, h =>
    simp only [gr_nb] at h
    split at h
    · rename_i a
      have b := gr_pn a
      have c := gr_up l3 a
      cases h
      have e1 : (p - n) / n = p / n - 1 := by rw [← c]; exact (gr_xy l2).2
      show (if (p - n) / n < n - 1 then some (p - n + n) else none) = some p
      rw [e1, if_pos (by generalize p / n = u at *; omega), Nat.sub_add_cancel b]
    · cases h
  | 1, h =>
    simp only [gr_nb] at h
    split at h
    · rename_i a
      cases h
      have e1 := (gr_nb1 l3 a).2
      have : p % n ≤ p := Nat.mod_le _ _
      show (if (p - 1) % n < n - 1 then some (p - 1 + 1) else none) = some p
      rw [e1, if_pos (by omega), Nat.sub_add_cancel (by omega)]
    · cases h
  | 2, h =>
    simp only [gr_nb] at h
    split at h
    · rename_i a
      cases h
      have e1 : (p + 1) % n = p % n + 1 := by
        have := (gr_xy (n := n) (x := p % n + 1) (y := p / n) (by omega)).1
        rwa [← Nat.add_assoc, hpp] at this
      show (if 0 < (p + 1) % n then some (p + 1 - 1) else none) = some p
      rw [e1, if_pos (by omega), Nat.add_sub_cancel]
    · cases h
  | 3, h =>
    simp only [gr_nb] at h
    split at h
    · rename_i a
      cases h
      have e1 : (p + n) / n = p / n + 1 := Nat.add_div_right p l3
      show (if 0 < (p + n) / n then some (p + n - n) else none) = some p
      rw [e1, if_pos (Nat.succ_pos _), Nat.add_sub_cancel]
    · cases h
  | k + 4, h => simp [gr_nb] at h
theorem wl_adj_sym {n p q : Nat} (hp : p < n * n) (h : wl_adj n p q) : wl_adj n q p := by
  obtain ⟨e, e4, h⟩ := h
  exact ⟨3 - e, by omega, gr_nb_sym hp h⟩
theorem i_or (a b : Nat) : nI a ||| nI b = nI (a ||| b) := by
  apply Int32.toBitVec_inj.mp
  rw [Int32.toBitVec_or]
  show BitVec.ofNat 32 a ||| BitVec.ofNat 32 b = BitVec.ofNat 32 (a ||| b)
  rw [BitVec.ofNat_or]
theorem hp_key_e {r q : Nat} (hr : r < 2 ^ 20) (hq : q < 1024) : hp_key (nI r) (nI q) = wl_key r q := by
  unfold hp_key wl_key
  rw [pk_shlN _ 10 (by decide) (by omega), pk_andN (by omega) 10 (by decide), Nat.mod_eq_of_lt (by omega), i_or]
  have := Nat.shiftLeft_add_eq_or_of_lt (i := 10) (b := q) (by omega) r
  rw [Nat.shiftLeft_eq] at this
  rw [← this]
theorem wl_key_q {r q : Nat} (hr : r < 2 ^ 20) (hq : q < 1024) : wl_key r q &&& 1023 = nI q := by
  unfold wl_key
  rw [pk_andN (by omega) 10 (by decide), show (r * 1024 + q) % 2 ^ 10 = q by omega]
theorem wl_key_r {r q : Nat} (hr : r < 2 ^ 20) (hq : q < 1024) : wl_key r q >>> ((10 : Int32) &&& 31) = nI r := by
  unfold wl_key
  rw [pk_shrN (by omega) _ 10 (by decide), show (r * 1024 + q) / 2 ^ 10 = r by omega]
theorem wl_key_le {r q r' q' : Nat} (hr : r < 2 ^ 20) (hq : q < 1024) (hr' : r' < 2 ^ 20) (hq' : q' < 1024) (h : (wl_key r q).toInt ≤ (wl_key r' q').toInt) : r < r' ∨ r = r' ∧ q ≤ q' := by
  unfold wl_key at h
  rw [nI_toInt (by omega), nI_toInt (by omega)] at h
  omega
theorem wl_key_inj {r q r' q' : Nat} (hr : r < 2 ^ 20) (hq : q < 1024) (hr' : r' < 2 ^ 20) (hq' : q' < 1024) (h : wl_key r q = wl_key r' q') : r = r' ∧ q = q' := by
  unfold wl_key at h
  rw [nI_eq (by omega) (by omega)] at h
  omega
theorem wl_least_one {n : Nat} {S : Nat → Prop} {lv : Nat → Nat} {q m m' : Nat} (h : wl_least n S lv q m) (h' : wl_least n S lv q m') : m = m' := by
  obtain ⟨⟨r, r1, r2, r3⟩, h2⟩ := h
  obtain ⟨⟨r', r1', r2', r3'⟩, h2'⟩ := h'
  have a := h2 r' r1' r2'
  have b := h2' r r1 r2
  omega
theorem wl_least_ex {n : Nat} {S : Nat → Prop} {lv : Nat → Nat} {q r : Nat} (h1 : wl_adj n q r) (h2 : S r) : ∃ m, wl_least n S lv q m := by
  obtain ⟨m, ⟨r', a, b, c⟩, hm⟩ := pk_least (fun m => ∃ r, wl_adj n q r ∧ S r ∧ lv r = m) ⟨lv r, r, h1, h2, rfl⟩
  refine ⟨m, ⟨r', a, b, c⟩, fun r2 ha hs => ?_⟩
  rcases Nat.lt_or_ge (lv r2) m with q1 | q1
  · exact absurd ⟨r2, ha, hs, rfl⟩ (hm (lv r2) q1)
  · exact q1
/-- what the heap and the row of least levels hold: U q: q is not taken; S q r: r counts as taken beside q -/
def ww_H (n : Nat) (h : Nat → Nat) (S : Nat → Nat → Prop) (U : Nat → Prop) (lv : Nat → Nat) (c : Nat) (τ : sw_Sg) : Prop :=
  τ 6 1 = nI c ∧ hp_ok (τ 58) c ∧
  (∀ q, q < n * n → U q → (∀ m, wl_least n (S q) lv q m → τ 47 q = nI m ∧ hp_in (τ 58) c (wl_key (wt_mx m (h q)) q)) ∧ ((∀ r, wl_adj n q r → ¬ S q r) → τ 47 q = 1000000)) ∧
  (∀ z, hp_in (τ 58) c z → ∃ r q, r ≤ 400 ∧ q < n * n ∧ z = wl_key r q ∧ (U q → ∃ m, wl_least n (S q) lv q m ∧ wt_mx m (h q) ≤ r))
theorem wl_least_congr {n : Nat} {S S' : Nat → Prop} {lv lv' : Nat → Nat} {q m : Nat} (hS : ∀ r, wl_adj n q r → (S r ↔ S' r)) (hl : ∀ r, wl_adj n q r → S r → lv r = lv' r) : wl_least n S lv q m → wl_least n S' lv' q m := by
  rintro ⟨⟨r, r1, r2, r3⟩, h2⟩
  refine ⟨⟨r, r1, (hS r r1).mp r2, by rw [← hl r r1 r2]; exact r3⟩, fun r' a b => ?_⟩
  have b' := (hS r' a).mpr b
  rw [← hl r' a b']
  exact h2 r' a b'
theorem ww_H.congr {n : Nat} {h : Nat → Nat} {S S' : Nat → Nat → Prop} {U : Nat → Prop} {lv lv' : Nat → Nat} {c : Nat} {τ : sw_Sg} (a : ww_H n h S U lv c τ) (hS : ∀ q, q < n * n → U q → ∀ r, wl_adj n q r → (S q r ↔ S' q r)) (hl : ∀ q r, q < n * n → U q → wl_adj n q r → S q r → lv r = lv' r) : ww_H n h S' U lv' c τ := by
  obtain ⟨a1, a2, a3, a4⟩ := a
  refine ⟨a1, a2, fun q hq hu => ⟨fun m hm => (a3 q hq hu).1 m (wl_least_congr (fun r hr => (hS q hq hu r hr).symm) (fun r hr hs => (hl q r hq hu hr ((hS q hq hu r hr).mpr hs)).symm) hm), fun hn => (a3 q hq hu).2 (fun r hr hs => hn r hr ((hS q hq hu r hr).mp hs))⟩, fun z hz => ?_⟩
  obtain ⟨r, q, h1, h2, h3, h4⟩ := a4 z hz
  refine ⟨r, q, h1, h2, h3, fun hu => ?_⟩
  obtain ⟨m, m1, m2⟩ := h4 hu
  exact ⟨m, wl_least_congr (hS q h2 hu) (fun r hr hs => hl q r h2 hu hr hs) m1, m2⟩
theorem ww_H.fr {n : Nat} {h : Nat → Nat} {S : Nat → Nat → Prop} {U : Nat → Prop} {lv : Nat → Nat} {c : Nat} {τ u : sw_Sg} (a : ww_H n h S U lv c τ) (h6 : u 6 1 = τ 6 1) (h58 : u 58 = τ 58) (h47 : u 47 = τ 47) : ww_H n h S U lv c u := by
  unfold ww_H
  rw [h6, h58, h47]
  exact a
/-- p counts beside q0 from now on, and that changes nothing -/
theorem ww_H.no {n : Nat} {h : Nat → Nat} {S : Nat → Nat → Prop} {U : Nat → Prop} {lv : Nat → Nat} {c p q0 : Nat} {τ : sw_Sg} (a : ww_H n h S U lv c τ) (hq0 : q0 < n * n) (hu0 : U q0) (hl : ∀ r, wl_adj n q0 r → S q0 r → lv r ≤ 400) (hp : lv p ≤ 400) (hle : ¬ nI (lv p) < τ 47 q0) : ww_H n h (fun q r => S q r ∨ (q = q0 ∧ r = p)) U lv c τ := by
  obtain ⟨a1, a2, a3, a4⟩ := a
  have hne : ∃ m0, wl_least n (S q0) lv q0 m0 ∧ m0 ≤ lv p := by
    by_cases hex : ∃ r, wl_adj n q0 r ∧ S q0 r
    · obtain ⟨r, r1, r2⟩ := hex
      obtain ⟨m0, hm0⟩ := wl_least_ex (S := S q0) (lv := lv) r1 r2
      refine ⟨m0, hm0, ?_⟩
      have e := ((a3 q0 hq0 hu0).1 m0 hm0).1
      obtain ⟨⟨r', s1, s2, s3⟩, -⟩ := hm0
      have h400 := hl r' s1 s2
      rw [e, nI_ltI (by omega) (by omega)] at hle
      omega
    · have e := (a3 q0 hq0 hu0).2 (fun r hr hs => hex ⟨r, hr, hs⟩)
      rw [e] at hle
      exact absurd (show nI (lv p) < nI 1000000 from nI_lt (by omega) (by omega)) hle
  obtain ⟨m0, hm0, hmp⟩ := hne
  have key : ∀ q, q < n * n → U q → ∀ m, wl_least n (fun r => S q r ∨ (q = q0 ∧ r = p)) lv q m ↔ wl_least n (S q) lv q m := by
    intro q hq hu m
    by_cases e : q = q0
    · subst e
      have big : wl_least n (fun r => S q r ∨ (q = q ∧ r = p)) lv q m0 := by
        obtain ⟨⟨r, r1, r2, r3⟩, r4⟩ := hm0
        refine ⟨⟨r, r1, Or.inl r2, r3⟩, fun r' s1 s2 => ?_⟩
        rcases s2 with s2 | ⟨-, rfl⟩
        · exact r4 r' s1 s2
        · exact hmp
      exact ⟨fun hm => by rw [wl_least_one hm big]; exact hm0, fun hm => by rw [wl_least_one hm hm0]; exact big⟩
    · have hS : ∀ r, wl_adj n q r → ((S q r ∨ (q = q0 ∧ r = p)) ↔ S q r) := fun r _ => ⟨fun z => z.elim id (fun z => absurd z.1 e), Or.inl⟩
      exact ⟨wl_least_congr hS (fun _ _ _ => rfl), wl_least_congr (fun r hr => (hS r hr).symm) (fun _ _ _ => rfl)⟩
  refine ⟨a1, a2, fun q hq hu => ⟨fun m hm => (a3 q hq hu).1 m ((key q hq hu m).mp hm), fun hn => (a3 q hq hu).2 (fun r hr hs => hn r hr (Or.inl hs))⟩, fun z hz => ?_⟩
  obtain ⟨r, q, h1, h2, h3, h4⟩ := a4 z hz
  refine ⟨r, q, h1, h2, h3, fun hu => ?_⟩
  obtain ⟨m, m1, m2⟩ := h4 hu
  exact ⟨m, (key q h2 hu m).mpr m1, m2⟩
/-- p counts beside q0 from now on: it is the lowest there, and a key comes in -/
theorem ww_H.yes {n : Nat} {h : Nat → Nat} {S : Nat → Nat → Prop} {U : Nat → Prop} {lv : Nat → Nat} {c p q0 : Nat} {τ u : sw_Sg} (a : ww_H n h S U lv c τ) (n24 : n ≤ 24) (hq0 : q0 < n * n) (hu0 : U q0) (hadj : wl_adj n q0 p) (hl : ∀ r, wl_adj n q0 r → S q0 r → lv r ≤ 400) (hp : lv p ≤ 400) (hh : ∀ q, q < n * n → h q ≤ 400) (hlt : nI (lv p) < τ 47 q0)
    (u6 : u 6 1 = nI (c + 1)) (uok : hp_ok (u 58) (c + 1)) (uin : ∀ z, hp_in (u 58) (c + 1) z ↔ hp_in (τ 58) c z ∨ z = wl_key (wt_mx (lv p) (h q0)) q0) (u47 : u 47 = upd (τ 47) q0 (nI (lv p))) : ww_H n h (fun q r => S q r ∨ (q = q0 ∧ r = p)) U lv (c + 1) u := by
  obtain ⟨a1, a2, a3, a4⟩ := a
  have big : wl_least n (fun r => S q0 r ∨ (q0 = q0 ∧ r = p)) lv q0 (lv p) := by
    refine ⟨⟨p, hadj, Or.inr ⟨rfl, rfl⟩, rfl⟩, fun r s1 s2 => ?_⟩
    rcases s2 with s2 | ⟨-, rfl⟩
    · obtain ⟨m0, hm0⟩ := wl_least_ex (S := S q0) (lv := lv) s1 s2
      have e := ((a3 q0 hq0 hu0).1 m0 hm0).1
      have := hm0.2 r s1 s2
      obtain ⟨r', t1, t2, t3⟩ := hm0.1
      have := hl r' t1 t2
      rw [e, nI_ltI (by omega) (by omega)] at hlt
      omega
    · exact Nat.le_refl _
  have oth : ∀ q, q ≠ q0 → ∀ m, wl_least n (fun r => S q r ∨ (q = q0 ∧ r = p)) lv q m ↔ wl_least n (S q) lv q m := by
    intro q e m
    have hS : ∀ r, wl_adj n q r → ((S q r ∨ (q = q0 ∧ r = p)) ↔ S q r) := fun r _ => ⟨fun z => z.elim id (fun z => absurd z.1 e), Or.inl⟩
    exact ⟨wl_least_congr hS (fun _ _ _ => rfl), wl_least_congr (fun r hr => (hS r hr).symm) (fun _ _ _ => rfl)⟩
  refine ⟨u6, uok, fun q hq hu => ?_, fun z hz => ?_⟩
  · by_cases e : q = q0
    · subst e
      refine ⟨fun m hm => ?_, fun hn => absurd (Or.inr ⟨rfl, rfl⟩) (hn p hadj)⟩
      rw [wl_least_one hm big, u47, upd_i]
      exact ⟨rfl, (uin _).mpr (Or.inr rfl)⟩
    · refine ⟨fun m hm => ?_, fun hn => ?_⟩
      · have := (a3 q hq hu).1 m ((oth q e m).mp hm)
        rw [u47, upd_o e]
        exact ⟨this.1, (uin _).mpr (Or.inl this.2)⟩
      · rw [u47, upd_o e]
        exact (a3 q hq hu).2 (fun r hr hs => hn r hr (Or.inl hs))
  · have hmx : wt_mx (lv p) (h q0) ≤ 400 := by
      have := hh q0 hq0
      unfold wt_mx
      split <;> omega
    rcases (uin z).mp hz with hz | rfl
    · obtain ⟨r, q, h1, h2, h3, h4⟩ := a4 z hz
      refine ⟨r, q, h1, h2, h3, fun hu => ?_⟩
      obtain ⟨m, m1, m2⟩ := h4 hu
      by_cases e : q = q0
      · subst e
        refine ⟨lv p, big, Nat.le_trans ?_ m2⟩
        have e1 := ((a3 q hq0 hu).1 m m1).1
        obtain ⟨⟨r', t1, t2, t3⟩, -⟩ := m1
        have := hl r' t1 t2
        rw [e1, nI_ltI (by omega) (by omega)] at hlt
        unfold wt_mx
        split <;> split <;> omega
      · exact ⟨m, (oth q e m).mpr m1, m2⟩
    · exact ⟨_, q0, hmx, hq0, rfl, fun _ => ⟨lv p, big, Nat.le_refl _⟩⟩
