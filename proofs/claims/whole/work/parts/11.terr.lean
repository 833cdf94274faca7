/-! places and their neighbours, alike in the class and in the reference -/
theorem SW.tableK {X : sw_X} {d : Nat} {me : sw_Me} {E : State → Prop} {R : Option Value → sw_Sg → Prop} {pc q : Nat} {L rest : List Value} {σ : sw_Sg} {x k : Int32} {dflt lo hi : Int} {offs : Array Int} {len : Nat} {off : Int} (hd : decode me.2.1 pc = .ok (.tableswitch dflt lo hi offs, len)) (hx : x = k) (h1 : ¬ k.toInt < lo) (h2 : ¬ hi < k.toInt) (ho : offs[(k.toInt - lo).toNat]? = some off) (hq : (pc : Int) + off = (q : Int)) (kk : SW X d me E R q L rest σ) : SW X d me E R pc L (.int x :: rest) σ := by
  subst hx
  exact SW.tableIn hd h1 h2 ho hq kk
def gr_nb (n p : Nat) : Nat → Option Nat
  | 0 => if 0 < p / n then some (p - n) else none
  | 1 => if 0 < p % n then some (p - 1) else none
  | 2 => if p % n < n - 1 then some (p + 1) else none
  | 3 => if p / n < n - 1 then some (p + n) else none
  | _ => none
def gr_v : Option Nat → Int32
  | none => -6
  | some q => nI q
def gr_rim (n p : Nat) : Bool := decide (p % n = 0 ∨ p / n = 0 ∨ p % n = n - 1 ∨ p / n = n - 1)
def sw_b (b : Bool) : Int32 := if b = true then 1 else 0
theorem sw_b_0 {b : Bool} : sw_b b = 0 ↔ b = false := by cases b <;> decide
theorem sw_b_1 {b : Bool} : sw_b b = 1 ↔ b = true := by cases b <;> decide
def sw_wi (v lo hi : Int32) : Int32 := if lo ≤ v ∧ v ≤ hi then 1 else 0
theorem sw_wi_1 {v lo hi : Int32} (h1 : lo ≤ v) (h2 : v ≤ hi) : ¬ sw_wi v lo hi = 0 := by
  rw [sw_wi, if_pos ⟨h1, h2⟩]; decide
theorem sw_wi_0 {v lo hi : Int32} (h : ¬ (lo ≤ v ∧ v ≤ hi)) : sw_wi v lo hi = 0 := by
  rw [sw_wi, if_neg h]
theorem sw_wi_e {v lo hi : Int32} : sw_wi v lo hi = 0 ↔ ¬ (lo ≤ v ∧ v ≤ hi) := by
  unfold sw_wi
  by_cases h : lo ≤ v ∧ v ≤ hi
  · rw [if_pos h]; exact ⟨fun q => absurd q (by decide), fun k => absurd h k⟩
  · rw [if_neg h]; exact ⟨fun _ => h, fun _ => rfl⟩
theorem gr_lt {n p : Nat} (hp : p < n * n) : p / n < n ∧ p % n < n ∧ 0 < n := by
  have hn : 0 < n := by
    rcases Nat.eq_zero_or_pos n with rfl | h
    · omega
    · exact h
  exact ⟨Nat.div_lt_of_lt_mul hp, Nat.mod_lt _ hn, hn⟩
theorem gr_xy {n x y : Nat} (hx : x < n) : (n * y + x) % n = x ∧ (n * y + x) / n = y := by
  have hn : 0 < n := by omega
  constructor
  · rw [Nat.mul_add_mod]; exact Nat.mod_eq_of_lt hx
  · rw [Nat.mul_add_div hn, Nat.div_eq_of_lt hx]; rfl
theorem gr_in {n x y : Nat} (hx : x < n) (hy : y < n) : n * y + x < n * n := by
  have : n * y + n ≤ n * n := by
    have := Nat.mul_le_mul_left n (show y + 1 ≤ n by omega)
    rwa [Nat.mul_add, Nat.mul_one] at this
  omega
theorem gr_pp {n p : Nat} : n * (p / n) + p % n = p := Nat.div_add_mod p n
theorem gr_pn {n p : Nat} (h : 0 < p / n) : n ≤ p := by
  have h1 : n * 1 ≤ n * (p / n) := Nat.mul_le_mul_left n h
  have h2 := gr_pp (n := n) (p := p)
  omega
/-- the size in use: n, its square, the places' columns and lines -/
def gr_T (σ : sw_Sg) (n : Nat) : Prop := 4 ≤ n ∧ n ≤ 24 ∧ σ 1 1 = nI n ∧ σ 1 2 = nI (n * n) ∧ ∀ p, p < n * n → σ 37 p = nI (p % n) ∧ σ 38 p = nI (p / n)
theorem gr_576 {n : Nat} (h : n ≤ 24) : n * n ≤ 576 := Nat.mul_le_mul h h
theorem gr_T.fr {l : List Nat} {σ u : sw_Sg} {n : Nat} (h : gr_T σ n) (hf : fr_ l σ u) (h1 : 1 ∉ l) (h2 : 37 ∉ l) (h3 : 38 ∉ l) : gr_T u n := by
  obtain ⟨a, b, c, d, e⟩ := h
  refine ⟨a, b, ?_, ?_, fun p hp => ?_⟩
  · rw [hf 1 h1]; exact c
  · rw [hf 1 h1]; exact d
  · rw [hf 37 h2, hf 38 h3]; exact e p hp
section TERR
variable {X : sw_X} {σ : sw_Sg} {x y v : Int32} {n p q e : Nat}
theorem C_X7_within : sw_F X 0 mX7_within [.int v, .int x, .int y] σ (sw_wi v x y) σ := by
  refine sw_ME.ofF (by decide +kernel) rfl (Nat.le_of_ble_eq_true rfl) rfl ?_
  refine SW.iload_n (q := 1) (i := 0) dX7_within_0 rfl rfl rfl ?_
  refine SW.iload_n (q := 2) (i := 1) dX7_within_1 rfl rfl rfl ?_
  refine SW.icmp_lt (q := 5) (tgt := 14) dX7_within_2 (by decide) rfl (fun c2 => ?_) (fun c2 => ?_)
  · refine SW.iconst (q := 15) (v := 0) dX7_within_14 (by decide) rfl ?_
    refine SW.iretR rfl rfl dX7_within_15 ?_
    refine ⟨?_, rfl⟩
    first
    | (rw [sw_wi, if_pos ⟨Int32.not_lt.mp c2, Int32.not_lt.mp c7⟩]; done)
    | (rw [sw_wi, if_neg (fun h => absurd c7 (Int32.not_lt.mpr h.2))]; done)
    | rw [sw_wi, if_neg (fun h => absurd c2 (Int32.not_lt.mpr h.1))]
  · refine SW.iload_n (q := 6) (i := 0) dX7_within_5 rfl rfl rfl ?_
    refine SW.iload_n (q := 7) (i := 2) dX7_within_6 rfl rfl rfl ?_
    refine SW.icmp_gt (q := 10) (tgt := 14) dX7_within_7 (by decide) rfl (fun c7 => ?_) (fun c7 => ?_)
    · refine SW.iconst (q := 15) (v := 0) dX7_within_14 (by decide) rfl ?_
      refine SW.iretR rfl rfl dX7_within_15 ?_
      refine ⟨?_, rfl⟩
      first
      | (rw [sw_wi, if_pos ⟨Int32.not_lt.mp c2, Int32.not_lt.mp c7⟩]; done)
      | (rw [sw_wi, if_neg (fun h => absurd c7 (Int32.not_lt.mpr h.2))]; done)
      | rw [sw_wi, if_neg (fun h => absurd c2 (Int32.not_lt.mpr h.1))]
    · refine SW.iconst (q := 11) (v := 1) dX7_within_10 (by decide) rfl ?_
      refine SW.goto (q := 15) dX7_within_11 (by decide) ?_
      refine SW.iretR rfl rfl dX7_within_15 ?_
      refine ⟨?_, rfl⟩
      first
      | (rw [sw_wi, if_pos ⟨Int32.not_lt.mp c2, Int32.not_lt.mp c7⟩]; done)
      | (rw [sw_wi, if_neg (fun h => absurd c7 (Int32.not_lt.mpr h.2))]; done)
      | rw [sw_wi, if_neg (fun h => absurd c2 (Int32.not_lt.mpr h.1))]
theorem C_X8_in : sw_F X 0 mX8_in [.int v, .int x, .int y] σ (sw_wi v x y) σ := by
  refine sw_ME.ofF (by decide +kernel) rfl (Nat.le_of_ble_eq_true rfl) rfl ?_
  refine SW.iload_n (q := 1) (i := 0) dX8_in_0 rfl rfl rfl ?_
  refine SW.iload_n (q := 2) (i := 1) dX8_in_1 rfl rfl rfl ?_
  refine SW.icmp_lt (q := 5) (tgt := 14) dX8_in_2 (by decide) rfl (fun c2 => ?_) (fun c2 => ?_)
  · refine SW.iconst (q := 15) (v := 0) dX8_in_14 (by decide) rfl ?_
    refine SW.iretR rfl rfl dX8_in_15 ?_
    refine ⟨?_, rfl⟩
    first
    | (rw [sw_wi, if_pos ⟨Int32.not_lt.mp c2, Int32.not_lt.mp c7⟩]; done)
    | (rw [sw_wi, if_neg (fun h => absurd c7 (Int32.not_lt.mpr h.2))]; done)
    | rw [sw_wi, if_neg (fun h => absurd c2 (Int32.not_lt.mpr h.1))]
  · refine SW.iload_n (q := 6) (i := 0) dX8_in_5 rfl rfl rfl ?_
    refine SW.iload_n (q := 7) (i := 2) dX8_in_6 rfl rfl rfl ?_
    refine SW.icmp_gt (q := 10) (tgt := 14) dX8_in_7 (by decide) rfl (fun c7 => ?_) (fun c7 => ?_)
    · refine SW.iconst (q := 15) (v := 0) dX8_in_14 (by decide) rfl ?_
      refine SW.iretR rfl rfl dX8_in_15 ?_
      refine ⟨?_, rfl⟩
      first
      | (rw [sw_wi, if_pos ⟨Int32.not_lt.mp c2, Int32.not_lt.mp c7⟩]; done)
      | (rw [sw_wi, if_neg (fun h => absurd c7 (Int32.not_lt.mpr h.2))]; done)
      | rw [sw_wi, if_neg (fun h => absurd c2 (Int32.not_lt.mpr h.1))]
    · refine SW.iconst (q := 11) (v := 1) dX8_in_10 (by decide) rfl ?_
      refine SW.goto (q := 15) dX8_in_11 (by decide) ?_
      refine SW.iretR rfl rfl dX8_in_15 ?_
      refine ⟨?_, rfl⟩
      first
      | (rw [sw_wi, if_pos ⟨Int32.not_lt.mp c2, Int32.not_lt.mp c7⟩]; done)
      | (rw [sw_wi, if_neg (fun h => absurd c7 (Int32.not_lt.mpr h.2))]; done)
      | rw [sw_wi, if_neg (fun h => absurd c2 (Int32.not_lt.mpr h.1))]
/-- the class's hasPlace: 0 to places - 1 -/
theorem C_X5_hasPlace : sw_F X 0 mX5_hasPlace [.ref (sw_ad X 1), .int x] σ (sw_b (decide (0 ≤ x ∧ x < σ 1 2))) σ := by
  refine sw_ME.ofF (by decide +kernel) rfl (Nat.le_of_ble_eq_true rfl) rfl ?_
  refine SW.iload_n (q := 1) (i := 1) dX5_hasPlace_0 rfl rfl rfl ?_
  refine SW.if_lt (q := 4) (tgt := 16) dX5_hasPlace_1 (by decide) rfl (fun c1 => ?_) (fun c1 => ?_)
  · refine SW.iconst (q := 17) (v := 0) dX5_hasPlace_16 (by decide) rfl ?_
    refine SW.iretR rfl rfl dX5_hasPlace_17 ?_
    refine ⟨?_, rfl⟩
    first
    | (rw [decide_eq_true (p := 0 ≤ x ∧ x < σ 1 2) ⟨Int32.not_lt.mp c1, Int32.not_le.mp c9⟩]; rfl)
    | (rw [decide_eq_false (p := 0 ≤ x ∧ x < σ 1 2) (fun h => absurd c9 (Int32.not_le.mpr h.2))]; rfl)
    | (rw [decide_eq_false (p := 0 ≤ x ∧ x < σ 1 2) (fun h => absurd c1 (Int32.not_lt.mpr h.1))]; rfl)
  · refine SW.iload_n (q := 5) (i := 1) dX5_hasPlace_4 rfl rfl rfl ?_
    refine SW.aload_n (q := 6) (i := 0) dX5_hasPlace_5 rfl rfl rfl ?_
    refine SW.getI (q := 9) (i := 1) fX5_18 rfl rfl dX5_hasPlace_6 rfl ?_
    refine SW.icmp_ge (q := 12) (tgt := 16) dX5_hasPlace_9 (by decide) rfl (fun c9 => ?_) (fun c9 => ?_)
    · refine SW.iconst (q := 17) (v := 0) dX5_hasPlace_16 (by decide) rfl ?_
      refine SW.iretR rfl rfl dX5_hasPlace_17 ?_
      refine ⟨?_, rfl⟩
      first
      | (rw [decide_eq_true (p := 0 ≤ x ∧ x < σ 1 2) ⟨Int32.not_lt.mp c1, Int32.not_le.mp c9⟩]; rfl)
      | (rw [decide_eq_false (p := 0 ≤ x ∧ x < σ 1 2) (fun h => absurd c9 (Int32.not_le.mpr h.2))]; rfl)
      | (rw [decide_eq_false (p := 0 ≤ x ∧ x < σ 1 2) (fun h => absurd c1 (Int32.not_lt.mpr h.1))]; rfl)
    · refine SW.iconst (q := 13) (v := 1) dX5_hasPlace_12 (by decide) rfl ?_
      refine SW.goto (q := 17) dX5_hasPlace_13 (by decide) ?_
      refine SW.iretR rfl rfl dX5_hasPlace_17 ?_
      refine ⟨?_, rfl⟩
      first
      | (rw [decide_eq_true (p := 0 ≤ x ∧ x < σ 1 2) ⟨Int32.not_lt.mp c1, Int32.not_le.mp c9⟩]; rfl)
      | (rw [decide_eq_false (p := 0 ≤ x ∧ x < σ 1 2) (fun h => absurd c9 (Int32.not_le.mpr h.2))]; rfl)
      | (rw [decide_eq_false (p := 0 ≤ x ∧ x < σ 1 2) (fun h => absurd c1 (Int32.not_lt.mpr h.1))]; rfl)
theorem C_X5_beside (hT : gr_T σ n) (hx : x = nI p) (hy : y = nI e) (hp : p < n * n) (he : e < 4) : sw_F X 1 mX5_beside [.ref (sw_ad X 1), .int x, .int y] σ (gr_v (gr_nb n p e)) σ := by
  subst hx; subst hy
  obtain ⟨n4, n24, hside, hpl, hcl⟩ := hT
  have h576 := gr_576 n24
  obtain ⟨l1, l2, l3⟩ := gr_lt hp
  have ec := (hcl p hp).1
  have el := (hcl p hp).2
  have en1 : nI n - 1 = nI (n - 1) := by
    have := nI_pred (n - 1)
    rwa [show n - 1 + 1 = n by omega] at this
  refine sw_ME.ofF (by decide +kernel) rfl (Nat.le_of_ble_eq_true rfl) rfl ?_
  rcases (show e = 0 ∨ e = 1 ∨ e = 2 ∨ e = 3 by omega) with rfl | rfl | rfl | rfl
  · by_cases h : 0 < p / n
    · have := gr_pn h
      refine SW.iload_n (q := 1) (i := 2) dX5_beside_0 rfl rfl rfl ?_
      refine SW.tableK (q := 32) (k := 0) (off := 31) dX5_beside_1 rfl (by decide) (by decide) rfl (by decide) ?_
      refine SW.aload_n (q := 33) (i := 0) dX5_beside_32 rfl rfl rfl ?_
      refine SW.getR (q := 36) (i := 1) (j := 12) fX5_48 rfl rfl dX5_beside_33 rfl ?_
      refine SW.iload_n (q := 37) (i := 1) dX5_beside_36 rfl rfl rfl ?_
      refine SW.cF (q := 40) (C_X3_atn (i := 12) (j := 38) (n := 576) rfl rfl (k := p) rfl (by omega)) vX5_77 (by decide) rfl rfl rfl rfl (Nat.le_of_ble_eq_true rfl) dX5_beside_37 rfl ?_
      refine SW.if_le (q := 43) (tgt := 52) dX5_beside_40 (by decide) rfl (fun c40 => absurd c40 ((by rw [el]; exact nI_nle h (by omega)))) (fun _ => ?_)
      refine SW.iload_n (q := 44) (i := 1) dX5_beside_43 rfl rfl rfl ?_
      refine SW.aload_n (q := 45) (i := 0) dX5_beside_44 rfl rfl rfl ?_
      refine SW.getI (q := 48) (i := 1) fX5_15 rfl rfl dX5_beside_45 rfl ?_
      refine SW.isub (q := 49) dX5_beside_48 rfl ?_
      refine SW.goto (q := 54) dX5_beside_49 (by decide) ?_
      refine SW.iretR rfl rfl dX5_beside_54 ?_
      exact ⟨by rw [hside, pk_sub this, gr_nb, if_pos h]; rfl, rfl⟩
    · refine SW.iload_n (q := 1) (i := 2) dX5_beside_0 rfl rfl rfl ?_
      refine SW.tableK (q := 32) (k := 0) (off := 31) dX5_beside_1 rfl (by decide) (by decide) rfl (by decide) ?_
      refine SW.aload_n (q := 33) (i := 0) dX5_beside_32 rfl rfl rfl ?_
      refine SW.getR (q := 36) (i := 1) (j := 12) fX5_48 rfl rfl dX5_beside_33 rfl ?_
      refine SW.iload_n (q := 37) (i := 1) dX5_beside_36 rfl rfl rfl ?_
      refine SW.cF (q := 40) (C_X3_atn (i := 12) (j := 38) (n := 576) rfl rfl (k := p) rfl (by omega)) vX5_77 (by decide) rfl rfl rfl rfl (Nat.le_of_ble_eq_true rfl) dX5_beside_37 rfl ?_
      refine SW.if_le (q := 43) (tgt := 52) dX5_beside_40 (by decide) rfl (fun _ => ?_) (fun c40 => absurd ((by rw [el, show p / n = 0 from Nat.eq_zero_of_not_pos h]; decide)) c40)
      refine SW.bipush (q := 54) (v := (-6)) dX5_beside_52 (by decide) rfl ?_
      refine SW.iretR rfl rfl dX5_beside_54 ?_
      exact ⟨by rw [gr_nb, if_neg h]; rfl, rfl⟩
  · by_cases h : 0 < p % n
    · have h1 : p % n ≤ p := Nat.mod_le _ _
      have e1 : nI p - 1 = nI (p - 1) := by
        have := nI_pred (p - 1)
        rwa [show p - 1 + 1 = p by omega] at this
      refine SW.iload_n (q := 1) (i := 2) dX5_beside_0 rfl rfl rfl ?_
      refine SW.tableK (q := 55) (k := 1) (off := 54) dX5_beside_1 rfl (by decide) (by decide) rfl (by decide) ?_
      refine SW.aload_n (q := 56) (i := 0) dX5_beside_55 rfl rfl rfl ?_
      refine SW.getR (q := 59) (i := 1) (j := 11) fX5_45 rfl rfl dX5_beside_56 rfl ?_
      refine SW.iload_n (q := 60) (i := 1) dX5_beside_59 rfl rfl rfl ?_
      refine SW.cF (q := 63) (C_X3_atn (i := 11) (j := 37) (n := 576) rfl rfl (k := p) rfl (by omega)) vX5_77 (by decide) rfl rfl rfl rfl (Nat.le_of_ble_eq_true rfl) dX5_beside_60 rfl ?_
      refine SW.if_le (q := 66) (tgt := 72) dX5_beside_63 (by decide) rfl (fun c63 => absurd c63 ((by rw [ec]; exact nI_nle h (by omega)))) (fun _ => ?_)
      refine SW.iload_n (q := 67) (i := 1) dX5_beside_66 rfl rfl rfl ?_
      refine SW.iconst (q := 68) (v := 1) dX5_beside_67 (by decide) rfl ?_
      refine SW.isub (q := 69) dX5_beside_68 rfl ?_
      refine SW.goto (q := 74) dX5_beside_69 (by decide) ?_
      refine SW.iretR rfl rfl dX5_beside_74 ?_
      exact ⟨by rw [e1, gr_nb, if_pos h]; rfl, rfl⟩
    · refine SW.iload_n (q := 1) (i := 2) dX5_beside_0 rfl rfl rfl ?_
      refine SW.tableK (q := 55) (k := 1) (off := 54) dX5_beside_1 rfl (by decide) (by decide) rfl (by decide) ?_
      refine SW.aload_n (q := 56) (i := 0) dX5_beside_55 rfl rfl rfl ?_
      refine SW.getR (q := 59) (i := 1) (j := 11) fX5_45 rfl rfl dX5_beside_56 rfl ?_
      refine SW.iload_n (q := 60) (i := 1) dX5_beside_59 rfl rfl rfl ?_
      refine SW.cF (q := 63) (C_X3_atn (i := 11) (j := 37) (n := 576) rfl rfl (k := p) rfl (by omega)) vX5_77 (by decide) rfl rfl rfl rfl (Nat.le_of_ble_eq_true rfl) dX5_beside_60 rfl ?_
      refine SW.if_le (q := 66) (tgt := 72) dX5_beside_63 (by decide) rfl (fun _ => ?_) (fun c63 => absurd ((by rw [ec, show p % n = 0 from Nat.eq_zero_of_not_pos h]; decide)) c63)
      refine SW.bipush (q := 74) (v := (-6)) dX5_beside_72 (by decide) rfl ?_
      refine SW.iretR rfl rfl dX5_beside_74 ?_
      exact ⟨by rw [gr_nb, if_neg h]; rfl, rfl⟩
  · by_cases h : p % n < n - 1
    · refine SW.iload_n (q := 1) (i := 2) dX5_beside_0 rfl rfl rfl ?_
      refine SW.tableK (q := 75) (k := 2) (off := 74) dX5_beside_1 rfl (by decide) (by decide) rfl (by decide) ?_
      refine SW.aload_n (q := 76) (i := 0) dX5_beside_75 rfl rfl rfl ?_
      refine SW.getR (q := 79) (i := 1) (j := 11) fX5_45 rfl rfl dX5_beside_76 rfl ?_
      refine SW.iload_n (q := 80) (i := 1) dX5_beside_79 rfl rfl rfl ?_
      refine SW.cF (q := 83) (C_X3_atn (i := 11) (j := 37) (n := 576) rfl rfl (k := p) rfl (by omega)) vX5_77 (by decide) rfl rfl rfl rfl (Nat.le_of_ble_eq_true rfl) dX5_beside_80 rfl ?_
      refine SW.aload_n (q := 84) (i := 0) dX5_beside_83 rfl rfl rfl ?_
      refine SW.getI (q := 87) (i := 1) fX5_15 rfl rfl dX5_beside_84 rfl ?_
      refine SW.iconst (q := 88) (v := 1) dX5_beside_87 (by decide) rfl ?_
      refine SW.isub (q := 89) dX5_beside_88 rfl ?_
      refine SW.icmp_ge (q := 92) (tgt := 98) dX5_beside_89 (by decide) rfl (fun c89 => absurd c89 ((by rw [ec, hside, en1]; exact nI_ge h (by omega)))) (fun _ => ?_)
      refine SW.iload_n (q := 93) (i := 1) dX5_beside_92 rfl rfl rfl ?_
      refine SW.iconst (q := 94) (v := 1) dX5_beside_93 (by decide) rfl ?_
      refine SW.iadd (q := 95) dX5_beside_94 rfl ?_
      refine SW.goto (q := 100) dX5_beside_95 (by decide) ?_
      refine SW.iretR rfl rfl dX5_beside_100 ?_
      exact ⟨by rw [nI_1, gr_nb, if_pos h]; rfl, rfl⟩
    · refine SW.iload_n (q := 1) (i := 2) dX5_beside_0 rfl rfl rfl ?_
      refine SW.tableK (q := 75) (k := 2) (off := 74) dX5_beside_1 rfl (by decide) (by decide) rfl (by decide) ?_
      refine SW.aload_n (q := 76) (i := 0) dX5_beside_75 rfl rfl rfl ?_
      refine SW.getR (q := 79) (i := 1) (j := 11) fX5_45 rfl rfl dX5_beside_76 rfl ?_
      refine SW.iload_n (q := 80) (i := 1) dX5_beside_79 rfl rfl rfl ?_
      refine SW.cF (q := 83) (C_X3_atn (i := 11) (j := 37) (n := 576) rfl rfl (k := p) rfl (by omega)) vX5_77 (by decide) rfl rfl rfl rfl (Nat.le_of_ble_eq_true rfl) dX5_beside_80 rfl ?_
      refine SW.aload_n (q := 84) (i := 0) dX5_beside_83 rfl rfl rfl ?_
      refine SW.getI (q := 87) (i := 1) fX5_15 rfl rfl dX5_beside_84 rfl ?_
      refine SW.iconst (q := 88) (v := 1) dX5_beside_87 (by decide) rfl ?_
      refine SW.isub (q := 89) dX5_beside_88 rfl ?_
      refine SW.icmp_ge (q := 92) (tgt := 98) dX5_beside_89 (by decide) rfl (fun _ => ?_) (fun c89 => absurd ((by rw [ec, hside, en1]; exact nI_le (by omega) (by omega))) c89)
      refine SW.bipush (q := 100) (v := (-6)) dX5_beside_98 (by decide) rfl ?_
      refine SW.iretR rfl rfl dX5_beside_100 ?_
      exact ⟨by rw [gr_nb, if_neg h]; rfl, rfl⟩
  · by_cases h : p / n < n - 1
    · refine SW.iload_n (q := 1) (i := 2) dX5_beside_0 rfl rfl rfl ?_
      refine SW.tableK (q := 101) (k := 3) (off := 100) dX5_beside_1 rfl (by decide) (by decide) rfl (by decide) ?_
      refine SW.aload_n (q := 102) (i := 0) dX5_beside_101 rfl rfl rfl ?_
      refine SW.getR (q := 105) (i := 1) (j := 12) fX5_48 rfl rfl dX5_beside_102 rfl ?_
      refine SW.iload_n (q := 106) (i := 1) dX5_beside_105 rfl rfl rfl ?_
      refine SW.cF (q := 109) (C_X3_atn (i := 12) (j := 38) (n := 576) rfl rfl (k := p) rfl (by omega)) vX5_77 (by decide) rfl rfl rfl rfl (Nat.le_of_ble_eq_true rfl) dX5_beside_106 rfl ?_
      refine SW.aload_n (q := 110) (i := 0) dX5_beside_109 rfl rfl rfl ?_
      refine SW.getI (q := 113) (i := 1) fX5_15 rfl rfl dX5_beside_110 rfl ?_
      refine SW.iconst (q := 114) (v := 1) dX5_beside_113 (by decide) rfl ?_
      refine SW.isub (q := 115) dX5_beside_114 rfl ?_
      refine SW.icmp_ge (q := 118) (tgt := 127) dX5_beside_115 (by decide) rfl (fun c115 => absurd c115 ((by rw [el, hside, en1]; exact nI_ge h (by omega)))) (fun _ => ?_)
      refine SW.iload_n (q := 119) (i := 1) dX5_beside_118 rfl rfl rfl ?_
      refine SW.aload_n (q := 120) (i := 0) dX5_beside_119 rfl rfl rfl ?_
      refine SW.getI (q := 123) (i := 1) fX5_15 rfl rfl dX5_beside_120 rfl ?_
      refine SW.iadd (q := 124) dX5_beside_123 rfl ?_
      refine SW.goto (q := 129) dX5_beside_124 (by decide) ?_
      refine SW.iretR rfl rfl dX5_beside_129 ?_
      exact ⟨by rw [hside, nI_add, gr_nb, if_pos h]; rfl, rfl⟩
    · refine SW.iload_n (q := 1) (i := 2) dX5_beside_0 rfl rfl rfl ?_
      refine SW.tableK (q := 101) (k := 3) (off := 100) dX5_beside_1 rfl (by decide) (by decide) rfl (by decide) ?_
      refine SW.aload_n (q := 102) (i := 0) dX5_beside_101 rfl rfl rfl ?_
      refine SW.getR (q := 105) (i := 1) (j := 12) fX5_48 rfl rfl dX5_beside_102 rfl ?_
      refine SW.iload_n (q := 106) (i := 1) dX5_beside_105 rfl rfl rfl ?_
      refine SW.cF (q := 109) (C_X3_atn (i := 12) (j := 38) (n := 576) rfl rfl (k := p) rfl (by omega)) vX5_77 (by decide) rfl rfl rfl rfl (Nat.le_of_ble_eq_true rfl) dX5_beside_106 rfl ?_
      refine SW.aload_n (q := 110) (i := 0) dX5_beside_109 rfl rfl rfl ?_
      refine SW.getI (q := 113) (i := 1) fX5_15 rfl rfl dX5_beside_110 rfl ?_
      refine SW.iconst (q := 114) (v := 1) dX5_beside_113 (by decide) rfl ?_
      refine SW.isub (q := 115) dX5_beside_114 rfl ?_
      refine SW.icmp_ge (q := 118) (tgt := 127) dX5_beside_115 (by decide) rfl (fun _ => ?_) (fun c115 => absurd ((by rw [el, hside, en1]; exact nI_le (by omega) (by omega))) c115)
      refine SW.bipush (q := 129) (v := (-6)) dX5_beside_127 (by decide) rfl ?_
      refine SW.iretR rfl rfl dX5_beside_129 ?_
      exact ⟨by rw [gr_nb, if_neg h]; rfl, rfl⟩
theorem C_X5_isRim (hT : gr_T σ n) (hx : x = nI p) (hp : p < n * n) : sw_F X 1 mX5_isRim [.ref (sw_ad X 1), .int x] σ (sw_b (gr_rim n p)) σ := by
  subst hx
  obtain ⟨n4, n24, hside, hpl, hcl⟩ := hT
  have h576 := gr_576 n24
  obtain ⟨l1, l2, l3⟩ := gr_lt hp
  have ec := (hcl p hp).1
  have el := (hcl p hp).2
  have en1 : nI n - 1 = nI (n - 1) := by
    have := nI_pred (n - 1)
    rwa [show n - 1 + 1 = n by omega] at this
  have z1 : nI (p % n) = 0 ↔ p % n = 0 := nI_eq (b := 0) (by omega) (by omega)
  have z2 : nI (p / n) = 0 ↔ p / n = 0 := nI_eq (b := 0) (by omega) (by omega)
  have z3 : nI (p % n) = nI (n - 1) ↔ p % n = n - 1 := nI_eq (by omega) (by omega)
  have z4 : nI (p / n) = nI (n - 1) ↔ p / n = n - 1 := nI_eq (by omega) (by omega)
  refine sw_ME.ofF (by decide +kernel) rfl (Nat.le_of_ble_eq_true rfl) rfl ?_
  refine SW.aload_n (q := 1) (i := 0) dX5_isRim_0 rfl rfl rfl ?_
  refine SW.getR (q := 4) (i := 1) (j := 11) fX5_45 rfl rfl dX5_isRim_1 rfl ?_
  refine SW.iload_n (q := 5) (i := 1) dX5_isRim_4 rfl rfl rfl ?_
  refine SW.cF (q := 8) (C_X3_atn (i := 11) (j := 37) (n := 576) rfl rfl (k := p) rfl (by omega)) vX5_77 (by decide) rfl rfl rfl rfl (Nat.le_of_ble_eq_true rfl) dX5_isRim_5 rfl ?_
  refine SW.istore_n (q := 9) (i := 2) dX5_isRim_8 rfl (by decide) rfl ?_
  refine SW.aload_n (q := 10) (i := 0) dX5_isRim_9 rfl rfl rfl ?_
  refine SW.getR (q := 13) (i := 1) (j := 12) fX5_48 rfl rfl dX5_isRim_10 rfl ?_
  refine SW.iload_n (q := 14) (i := 1) dX5_isRim_13 rfl rfl rfl ?_
  refine SW.cF (q := 17) (C_X3_atn (i := 12) (j := 38) (n := 576) rfl rfl (k := p) rfl (by omega)) vX5_77 (by decide) rfl rfl rfl rfl (Nat.le_of_ble_eq_true rfl) dX5_isRim_14 rfl ?_
  refine SW.istore_n (q := 18) (i := 3) dX5_isRim_17 rfl (by decide) rfl ?_
  refine SW.iload_n (q := 19) (i := 2) dX5_isRim_18 rfl rfl rfl ?_
  refine SW.if_eq (q := 22) (tgt := 46) dX5_isRim_19 (by decide) rfl (fun c19 => ?_) (fun c19 => ?_)
  · refine SW.iconst (q := 47) (v := 1) dX5_isRim_46 (by decide) rfl ?_
    refine SW.goto (q := 51) dX5_isRim_47 (by decide) ?_
    refine SW.iretR rfl rfl dX5_isRim_51 ?_
    refine ⟨?_, rfl⟩
    simp only [ec, el, hside, en1, z1, z2, z3, z4] at *
    simp [gr_rim, sw_b, *]
  · refine SW.iload_n (q := 23) (i := 3) dX5_isRim_22 rfl rfl rfl ?_
    refine SW.if_eq (q := 26) (tgt := 46) dX5_isRim_23 (by decide) rfl (fun c23 => ?_) (fun c23 => ?_)
    · refine SW.iconst (q := 47) (v := 1) dX5_isRim_46 (by decide) rfl ?_
      refine SW.goto (q := 51) dX5_isRim_47 (by decide) ?_
      refine SW.iretR rfl rfl dX5_isRim_51 ?_
      refine ⟨?_, rfl⟩
      simp only [ec, el, hside, en1, z1, z2, z3, z4] at *
      simp [gr_rim, sw_b, *]
    · refine SW.iload_n (q := 27) (i := 2) dX5_isRim_26 rfl rfl rfl ?_
      refine SW.aload_n (q := 28) (i := 0) dX5_isRim_27 rfl rfl rfl ?_
      refine SW.getI (q := 31) (i := 1) fX5_15 rfl rfl dX5_isRim_28 rfl ?_
      refine SW.iconst (q := 32) (v := 1) dX5_isRim_31 (by decide) rfl ?_
      refine SW.isub (q := 33) dX5_isRim_32 rfl ?_
      refine SW.icmp_eq (q := 36) (tgt := 46) dX5_isRim_33 (by decide) rfl (fun c33 => ?_) (fun c33 => ?_)
      · refine SW.iconst (q := 47) (v := 1) dX5_isRim_46 (by decide) rfl ?_
        refine SW.goto (q := 51) dX5_isRim_47 (by decide) ?_
        refine SW.iretR rfl rfl dX5_isRim_51 ?_
        refine ⟨?_, rfl⟩
        simp only [ec, el, hside, en1, z1, z2, z3, z4] at *
        simp [gr_rim, sw_b, *]
      · refine SW.iload_n (q := 37) (i := 3) dX5_isRim_36 rfl rfl rfl ?_
        refine SW.aload_n (q := 38) (i := 0) dX5_isRim_37 rfl rfl rfl ?_
        refine SW.getI (q := 41) (i := 1) fX5_15 rfl rfl dX5_isRim_38 rfl ?_
        refine SW.iconst (q := 42) (v := 1) dX5_isRim_41 (by decide) rfl ?_
        refine SW.isub (q := 43) dX5_isRim_42 rfl ?_
        refine SW.icmp_ne (q := 46) (tgt := 50) dX5_isRim_43 (by decide) rfl (fun c43 => ?_) (fun c43 => ?_)
        · refine SW.iconst (q := 51) (v := 0) dX5_isRim_50 (by decide) rfl ?_
          refine SW.iretR rfl rfl dX5_isRim_51 ?_
          refine ⟨?_, rfl⟩
          simp only [ec, el, hside, en1, z1, z2, z3, z4] at *
          simp [gr_rim, sw_b, *]
        · refine SW.iconst (q := 47) (v := 1) dX5_isRim_46 (by decide) rfl ?_
          refine SW.goto (q := 51) dX5_isRim_47 (by decide) ?_
          refine SW.iretR rfl rfl dX5_isRim_51 ?_
          refine ⟨?_, rfl⟩
          simp only [ec, el, hside, en1, z1, z2, z3, z4] at *
          simp [gr_rim, sw_b, *]
def gr_abs (a b : Nat) : Nat := if b ≤ a then a - b else b - a
theorem gr_abs_e {a b : Nat} (ha : a < 2 ^ 30) (hb : b < 2 ^ 30) : sw_abs (nI a - nI b) = nI (gr_abs a b) := by
  unfold gr_abs sw_abs
  by_cases h : b ≤ a
  · rw [if_pos h, pk_sub h, if_pos (nI_pos' (by omega))]
  · rw [if_neg h, if_neg (by
      have := pk_sneg (a := a) (b := b) hb (by omega)
      exact Int32.not_le.mpr this)]
    have e : nI a - nI b = - nI (b - a) := by
      have h1 := pk_sub (a := b) (b := a) (by omega)
      rw [← h1, Int32.neg_sub]
    rw [e, Int32.neg_neg]
/-- in rows and columns together -/
def gr_dist (n p q : Nat) : Nat := gr_abs (p % n) (q % n) + gr_abs (p / n) (q / n)
theorem C_X5_rowsAndColumnsBetween (hT : gr_T σ n) (hx : x = nI p) (hy : y = nI q) (hp : p < n * n) (hq : q < n * n) : sw_F X 1 mX5_rowsAndColumnsBetween [.ref (sw_ad X 1), .int x, .int y] σ (nI (gr_dist n p q)) σ := by
  subst hx; subst hy
  obtain ⟨n4, n24, hside, hpl, hcl⟩ := hT
  have h576 := gr_576 n24
  obtain ⟨l1, l2, l3⟩ := gr_lt hp
  obtain ⟨m1, m2, m3⟩ := gr_lt hq
  refine sw_ME.ofF (by decide +kernel) rfl (Nat.le_of_ble_eq_true rfl) rfl ?_
  refine SW.aload_n (q := 1) (i := 0) dX5_rowsAndColumnsBetween_0 rfl rfl rfl ?_
  refine SW.getR (q := 4) (i := 1) (j := 11) fX5_45 rfl rfl dX5_rowsAndColumnsBetween_1 rfl ?_
  refine SW.iload_n (q := 5) (i := 1) dX5_rowsAndColumnsBetween_4 rfl rfl rfl ?_
  refine SW.cF (q := 8) (C_X3_atn (i := 11) (j := 37) (n := 576) rfl rfl (k := p) rfl (by omega)) vX5_77 (by decide) rfl rfl rfl rfl (Nat.le_of_ble_eq_true rfl) dX5_rowsAndColumnsBetween_5 rfl ?_
  refine SW.aload_n (q := 9) (i := 0) dX5_rowsAndColumnsBetween_8 rfl rfl rfl ?_
  refine SW.getR (q := 12) (i := 1) (j := 11) fX5_45 rfl rfl dX5_rowsAndColumnsBetween_9 rfl ?_
  refine SW.iload_n (q := 13) (i := 2) dX5_rowsAndColumnsBetween_12 rfl rfl rfl ?_
  refine SW.cF (q := 16) (C_X3_atn (i := 11) (j := 37) (n := 576) rfl rfl (k := q) rfl (by omega)) vX5_77 (by decide) rfl rfl rfl rfl (Nat.le_of_ble_eq_true rfl) dX5_rowsAndColumnsBetween_13 rfl ?_
  refine SW.isub (q := 17) dX5_rowsAndColumnsBetween_16 rfl ?_
  refine SW.sF (q := 20) (C_abs) vX5_96 (by decide) rfl rfl (Nat.le_of_ble_eq_true rfl) dX5_rowsAndColumnsBetween_17 rfl ?_
  refine SW.aload_n (q := 21) (i := 0) dX5_rowsAndColumnsBetween_20 rfl rfl rfl ?_
  refine SW.getR (q := 24) (i := 1) (j := 12) fX5_48 rfl rfl dX5_rowsAndColumnsBetween_21 rfl ?_
  refine SW.iload_n (q := 25) (i := 1) dX5_rowsAndColumnsBetween_24 rfl rfl rfl ?_
  refine SW.cF (q := 28) (C_X3_atn (i := 12) (j := 38) (n := 576) rfl rfl (k := p) rfl (by omega)) vX5_77 (by decide) rfl rfl rfl rfl (Nat.le_of_ble_eq_true rfl) dX5_rowsAndColumnsBetween_25 rfl ?_
  refine SW.aload_n (q := 29) (i := 0) dX5_rowsAndColumnsBetween_28 rfl rfl rfl ?_
  refine SW.getR (q := 32) (i := 1) (j := 12) fX5_48 rfl rfl dX5_rowsAndColumnsBetween_29 rfl ?_
  refine SW.iload_n (q := 33) (i := 2) dX5_rowsAndColumnsBetween_32 rfl rfl rfl ?_
  refine SW.cF (q := 36) (C_X3_atn (i := 12) (j := 38) (n := 576) rfl rfl (k := q) rfl (by omega)) vX5_77 (by decide) rfl rfl rfl rfl (Nat.le_of_ble_eq_true rfl) dX5_rowsAndColumnsBetween_33 rfl ?_
  refine SW.isub (q := 37) dX5_rowsAndColumnsBetween_36 rfl ?_
  refine SW.sF (q := 40) (C_abs) vX5_96 (by decide) rfl rfl (Nat.le_of_ble_eq_true rfl) dX5_rowsAndColumnsBetween_37 rfl ?_
  refine SW.iadd (q := 41) dX5_rowsAndColumnsBetween_40 rfl ?_
  refine SW.iretR rfl rfl dX5_rowsAndColumnsBetween_41 ?_
  exact ⟨by rw [(hcl p hp).1, (hcl p hp).2, (hcl q hq).1, (hcl q hq).2, gr_abs_e (by omega) (by omega), gr_abs_e (by omega) (by omega), nI_add]; rfl, rfl⟩
end TERR
