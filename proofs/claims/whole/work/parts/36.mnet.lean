/-! THE NET in the reference -/
def nb_ (m : Nat) (s : Int32) (M : Nat → Prop) : Prop := ∃ k : Nat, k < 64 ∧ s = nI k ∧ ∀ a, a < m → (k.testBit a = true ↔ M a)
theorem nb_bit : ∀ k : Fin 64, ∀ a : Fin 6, (nI k.val >>> (nI a.val &&& 31)) &&& 1 = if k.val.testBit a.val = true then 1 else 0 := by decide +kernel
theorem nb_or : ∀ k : Fin 64, ∀ a : Fin 6, nI k.val ||| ((1 : Int32) <<< (nI a.val &&& 31)) = nI (k.val ||| 1 <<< a.val) ∧ k.val ||| 1 <<< a.val < 64 ∧ ∀ b : Fin 6, (k.val ||| 1 <<< a.val).testBit b.val = (k.val.testBit b.val || decide (b.val = a.val)) := by decide +kernel
section MNET
variable {X : sw_X} {σ τ : sw_Sg} {x y v w st s : Int32} {n p q br m a b c : Nat} {h : Nat → Nat} {kd : Nat → Int32} {d : Nat → Option Nat} {D : Nat → Nat → Option Nat} {pl : Nat → Nat} {T : nj_T} {M : Nat → Prop} {E : State → Prop} {R : Option Value → sw_Sg → Prop}
theorem nb_1 (hb : nb_ m s M) (m6 : m ≤ 6) (ha : a < m) (hM : M a) : (s >>> (nI a &&& 31)) &&& 1 = 1 := by
  obtain ⟨k, k1, rfl, k2⟩ := hb
  rw [nb_bit ⟨k, k1⟩ ⟨a, by omega⟩, if_pos ((k2 a ha).mpr hM)]
theorem nb_0 (hb : nb_ m s M) (m6 : m ≤ 6) (ha : a < m) (hM : ¬ M a) : (s >>> (nI a &&& 31)) &&& 1 = 0 := by
  obtain ⟨k, k1, rfl, k2⟩ := hb
  rw [nb_bit ⟨k, k1⟩ ⟨a, by omega⟩, if_neg (fun z => hM ((k2 a ha).mp z))]
theorem nb_up (hb : nb_ m s M) (m6 : m ≤ 6) (ha : a < m) {M' : Nat → Prop} (hM : ∀ x, M' x ↔ M x ∨ x = a) : nb_ m (s ||| ((1 : Int32) <<< (nI a &&& 31))) M' := by
  obtain ⟨k, k1, rfl, k2⟩ := hb
  obtain ⟨e1, e2, e3⟩ := nb_or ⟨k, k1⟩ ⟨a, by omega⟩
  refine ⟨k ||| 1 <<< a, e2, e1, fun x hx => ?_⟩
  have := e3 ⟨x, by omega⟩
  have e : (k ||| 1 <<< a).testBit x = (k.testBit x || decide (x = a)) := this
  rw [e, hM x, Bool.or_eq_true, decide_eq_true_eq, k2 x hx]
theorem nr_ap {r : Option (Nat × Nat × Nat)} : ∀ i, i ≤ T.k → nr_rd n h kd br D pl (nj_ap T r) i = nr_rd n h kd br D pl T i := by
  intro i
  induction i with
  | zero => intro _; rfl
  | succ i ih =>
    intro hi
    rw [nr_rd, nr_rd, ih (by omega)]
    cases r with
    | none => rfl
    | some w =>
      obtain ⟨a, b, c⟩ := w
      show nt_ly (fun x => nt_nx n h kd br (D (va_up T.g T.k b i)) x 4) (n * n) (some (pl (va_up T.f T.k a i))) _ = _
      rw [up_o (by omega), up_o (by omega)]
def mp_ (n m : Nat) (kd : Nat → Int32) (pl : Nat → Nat) (τ : sw_Sg) : Prop := τ 59 19 = nI m ∧ m ≤ 6 ∧ ∀ a, a < m → τ 71 a = nI (pl a) ∧ pl a < n * n ∧ kd (pl a) = 8
def mc_T (n : Nat) (h : Nat → Nat) (kd : Nat → Int32) (br : Nat) (D : Nat → Nat → Option Nat) (pl : Nat → Nat) (m : Nat) (T : nj_T) (τ : sw_Sg) : Prop :=
  τ 59 21 = nI (T.k + (if 0 < m then 1 else 0)) ∧ τ 59 22 = nI T.tot ∧ τ 59 23 = nI T.k ∧ (∀ i, i < T.k → τ 72 i = nI (T.f i) ∧ τ 73 i = nI (T.g i)) ∧ ∀ v, v < n * n → τ 74 v = nr_rd n h kd br D pl T T.k v
theorem mc_T.fr {l : List Nat} {u : sw_Sg} (z : mc_T n h kd br D pl m T τ) (hf : fr_ l τ u) (h1 : 59 ∉ l) (h2 : 72 ∉ l) (h3 : 73 ∉ l) (h4 : 74 ∉ l) : mc_T n h kd br D pl m T u := by
  unfold mc_T
  rw [hf 59 h1, hf 72 h2, hf 73 h3, hf 74 h4]; exact z
theorem mp_.fr {l : List Nat} {u : sw_Sg} (z : mp_ n m kd pl τ) (hf : fr_ l τ u) (h1 : 59 ∉ l) (h2 : 71 ∉ l) : mp_ n m kd pl u := by
  unfold mp_
  rw [hf 59 h1, hf 71 h2]; exact z
theorem mp_.fs {l ks : List Nat} {u : sw_Sg} (z : mp_ n m kd pl τ) (hf : fr_ l τ u) (hs : fs_ ks τ u) (h1 : 19 ∉ ks) (h2 : 71 ∉ l) : mp_ n m kd pl u := by
  unfold mp_
  rw [hs 19 h1, hf 71 h2]; exact z
theorem rk_G.fs {l ks : List Nat} {u : sw_Sg} (z : rk_G n h kd br τ) (hf : fr_ l τ u) (hs : fs_ ks τ u) (h1 : 1 ∉ ks) (h2 : 64 ∉ l) (h3 : 70 ∉ l) (h4 : 60 ∉ l) : rk_G n h kd br u :=
  ⟨⟨z.1.1, z.1.2.1, by rw [hs 1 h1]; exact z.1.2.2⟩, fun p hp => by rw [hf 64 h2]; exact z.2.1 p hp, by rw [hf 70 h3]; exact z.2.2.1, by rw [hf 60 h4]; exact z.2.2.2.1, z.2.2.2.2⟩
theorem fs_fr {l ks : List Nat} {u : sw_Sg} (z : fs_ ks σ τ) (hf : fr_ l τ u) (h1 : 59 ∉ l) : fs_ ks σ u := fun j hj => by rw [hf 59 h1]; exact z j hj
/-- one road -/
theorem mn_road (hb : b < m) (ok : nt_ok n h kd br (pl b) (D b)) {S B F C1 C2 C3 : Value} :
    ∀ (k p : Nat) (g : Nat → Int32) (τ : sw_Sg), rk_G n h kd br τ → mp_ n m kd pl τ → nt_lf n (D b) τ → p < n * n → (∃ c, D b p = some c) → nt_wy (fun a => nt_nx n h kd br (D b) a 4) (k + 1) (some p) = none → τ 74 = upd g p (g p + 1) →
      (∀ u, fr_ [74] τ u → u 74 = nt_ly (fun a => nt_nx n h kd br (D b) a 4) (k + 1) (some p) g → ∀ G, SW X 3 mX8_layNet E R 61 [.ref (sw_ad X 59), S, .int 1, B, F, .int (nI b), G, C1, C2, C3] [] u) →
      SW X 3 mX8_layNet E R 333 [.ref (sw_ad X 59), S, .int 1, B, F, .int (nI b), .int (nI p), C1, C2, C3] [] τ := by
  intro k
  induction k with
  | zero =>
    intro p g τ hG hP hl hp hc hw hg kont
    have n24 : n ≤ 24 := hG.1.2.1
    have h576 := gr_576 n24
    obtain ⟨pm, m6, pp⟩ := hP
    obtain ⟨b1, b2, b3⟩ := pp b hb
    have hN : nt_nx n h kd br (D b) p 4 = none := hw
    have e : p = pl b := Classical.byContradiction fun z => by
      obtain ⟨c, hc⟩ := hc
      obtain ⟨q, hq⟩ := nx_go ok (Or.inr b3) b2 hc z
      rw [hN] at hq; cases hq
    refine SW.iload (q := 335) (i := 6) dX8_layNet_333 rfl rfl ?_
    refine SW.aload_n (q := 336) (i := 0) dX8_layNet_335 rfl rfl rfl ?_
    refine SW.getR (q := 339) (i := 59) (j := 71) fX8_47 rfl rfl dX8_layNet_336 rfl ?_
    refine SW.iload (q := 341) (i := 5) dX8_layNet_339 rfl rfl ?_
    refine SW.ialdN (q := 342) (k := b) rfl (rfl) (by omega) (by decide) dX8_layNet_341 rfl ?_
    refine SW.icmp_eq (q := 345) (tgt := 367) dX8_layNet_342 (by decide) rfl (fun _ => ?_) (fun c342 => absurd ((by rw [b1, e])) c342)
    refine SW.goto (q := 61) dX8_layNet_367 (by decide) ?_
    exact kont τ fr_rf (by rw [hg]; rfl) _
  | succ k ih =>
    intro p g τ hG hP hl hp hc hw hg kont
    have n24 : n ≤ 24 := hG.1.2.1
    have h576 := gr_576 n24
    obtain ⟨pm, m6, pp⟩ := hP
    obtain ⟨b1, b2, b3⟩ := pp b hb
    by_cases e : p = pl b
    · refine SW.iload (q := 335) (i := 6) dX8_layNet_333 rfl rfl ?_
      refine SW.aload_n (q := 336) (i := 0) dX8_layNet_335 rfl rfl rfl ?_
      refine SW.getR (q := 339) (i := 59) (j := 71) fX8_47 rfl rfl dX8_layNet_336 rfl ?_
      refine SW.iload (q := 341) (i := 5) dX8_layNet_339 rfl rfl ?_
      refine SW.ialdN (q := 342) (k := b) rfl (rfl) (by omega) (by decide) dX8_layNet_341 rfl ?_
      refine SW.icmp_eq (q := 345) (tgt := 367) dX8_layNet_342 (by decide) rfl (fun _ => ?_) (fun c342 => absurd ((by rw [b1, e])) c342)
      refine SW.goto (q := 61) dX8_layNet_367 (by decide) ?_
      refine kont τ fr_rf ?_ _
      rw [hg]
      show _ = nt_ly _ (k + 1) (nt_nx n h kd br (D b) p 4) _
      rw [e, nx_s ok, ly_none]
    · obtain ⟨c, hc⟩ := hc
      obtain ⟨q, hq⟩ := nx_go ok (Or.inr b3) b2 hc e
      obtain ⟨⟨e', e4, ea⟩, -, c', hc', -⟩ := nx_some 4 (Nat.le_refl _) hq
      have hqn := (gr_nb_lt hp ea).1
      have hfr : fr_ [74] τ (sw_up τ 74 q (τ 74 q + 1)) := fr_up fr_rf (by decide)
      refine SW.iload (q := 335) (i := 6) dX8_layNet_333 rfl rfl ?_
      refine SW.aload_n (q := 336) (i := 0) dX8_layNet_335 rfl rfl rfl ?_
      refine SW.getR (q := 339) (i := 59) (j := 71) fX8_47 rfl rfl dX8_layNet_336 rfl ?_
      refine SW.iload (q := 341) (i := 5) dX8_layNet_339 rfl rfl ?_
      refine SW.ialdN (q := 342) (k := b) rfl (rfl) (by omega) (by decide) dX8_layNet_341 rfl ?_
      refine SW.icmp_eq (q := 345) (tgt := 367) dX8_layNet_342 (by decide) rfl (fun c342 => absurd c342 ((by rw [b1, nI_eq (by omega) (by omega)]; exact e))) (fun _ => ?_)
      refine SW.aload_n (q := 346) (i := 0) dX8_layNet_345 rfl rfl rfl ?_
      refine SW.iload (q := 348) (i := 6) dX8_layNet_346 rfl rfl ?_
      refine SW.cF (q := 351) (C_X8_next (h := h) (kd := kd) (br := br) (d := D b) (p := p) hG (nt_bd n24 ok) hl rfl hp) vX8_165 (by decide) rfl rfl rfl rfl (Nat.le_of_ble_eq_true rfl) dX8_layNet_348 rfl ?_
      rw [hq]
      refine SW.istore (q := 353) (i := 6) dX8_layNet_351 (by decide) rfl ?_
      refine SW.aload_n (q := 354) (i := 0) dX8_layNet_353 rfl rfl rfl ?_
      refine SW.getR (q := 357) (i := 59) (j := 74) fX8_56 rfl rfl dX8_layNet_354 rfl ?_
      refine SW.iload (q := 359) (i := 6) dX8_layNet_357 rfl rfl ?_
      refine SW.dup2 (q := 360) dX8_layNet_359 rfl rfl rfl ?_
      refine SW.ialdN (q := 361) (k := q) rfl (rfl) (by omega) (by decide) dX8_layNet_360 rfl ?_
      refine SW.iconst (q := 362) (v := 1) dX8_layNet_361 (by decide) rfl ?_
      refine SW.iadd (q := 363) dX8_layNet_362 rfl ?_
      refine SW.iastN (q := 364) (k := q) rfl (rfl) (by omega) (by decide) dX8_layNet_363 rfl ?_
      refine SW.goto (q := 333) dX8_layNet_364 (by decide) ?_
      refine ih q (upd g p (g p + 1)) _ (hG.fr hfr (by decide) (by decide) (by decide) (by decide)) (mp_.fr ⟨pm, m6, pp⟩ hfr (by decide) (by decide)) (fun v hv => by rw [hfr 75 (by decide)]; exact hl v hv) hqn ⟨c', hc'⟩ ?_ ?_ (fun u hu eu G => kont u (fr_tr hfr hu (by decide)) ?_ G)
      · have z : nt_wy (fun a => nt_nx n h kd br (D b) a 4) (k + 1) (nt_nx n h kd br (D b) p 4) = none := hw
        rw [hq] at z; exact z
      · rw [sw_up_i, hg]
      · rw [eu]
        show _ = nt_ly _ (k + 1) (nt_nx n h kd br (D b) p 4) _
        rw [hq]
theorem nj_sub {Sc Sc' : Nat → Nat → Prop} {r : Option (Nat × Nat × Nat)} (hr : nj_B D pl m M Sc r) (h1 : ∀ x y, Sc x y → Sc' x y) (h2 : ∀ x y c, Sc' x y → nj_c D pl m M x y c → Sc x y) : nj_B D pl m M Sc' r := by
  cases r with
  | none => exact fun x y c hs hc => hr x y c (h2 x y c hs hc) hc
  | some w =>
    obtain ⟨x, y, c⟩ := w
    exact ⟨h1 x y hr.1, hr.2.1, fun x' y' c' hs hc => hr.2.2 x' y' c' (h2 x' y' c' hs hc) hc⟩
def nj_b : Option (Nat × Nat × Nat) → Int32
  | none => -1
  | some (_, _, c) => nI c
/-- all towns from which b may be joined -/
theorem mn_inner (hP : mp_ n m kd pl τ) (n24 : n ≤ 24) (hl : nt_lf n (D b) τ) (hbd : ∀ v t c, t < m → D t v = some c → c ≤ 300000) (hS : nb_ m s M) (hbm : b < m) (hMb : ¬ M b)
    (kont : ∀ r, nj_B D pl m M (fun _ y => y < b + 1) r → ∀ C1 C2 C3, SW X 3 mX8_layNet E R 78 [.ref (sw_ad X 59), .int s, .int 1, .int (nj_b r), .int (nj_f r), .int (nj_s r), .int (nI (b + 1)), C1, C2, C3] [] τ) :
    ∀ (k a : Nat), a + k = m → ∀ r C2 C3, nj_B D pl m M (fun x y => y < b ∨ y = b ∧ x < a) r →
      SW X 3 mX8_layNet E R 110 [.ref (sw_ad X 59), .int s, .int 1, .int (nj_b r), .int (nj_f r), .int (nj_s r), .int (nI b), .int (nI a), C2, C3] [] τ := by
  have h576 := gr_576 n24
  obtain ⟨pm, m6, pp⟩ := hP
  intro k
  induction k with
  | zero =>
    intro a ha r C2 C3 hr
    obtain rfl : a = m := by omega
    refine SW.iload (q := 112) (i := 7) dX8_layNet_110 rfl rfl ?_
    refine SW.aload_n (q := 113) (i := 0) dX8_layNet_112 rfl rfl rfl ?_
    refine SW.getI (q := 116) (i := 59) fX8_134 rfl rfl dX8_layNet_113 rfl ?_
    refine SW.icmp_ge (q := 119) (tgt := 218) dX8_layNet_116 (by decide) rfl (fun _ => ?_) (fun c116 => absurd ((by rw [pm]; exact Int32.le_refl _)) c116)
    refine SW.iinc (q := 221) (v := _ + 1) dX8_layNet_218 rfl rfl (by decide) rfl ?_
    refine SW.goto (q := 78) dX8_layNet_221 (by decide) ?_
    exact SW.eq (by rw [nI_1]; rfl) rfl rfl (kont r (nj_ext hr (fun x y hx hy => by omega)) _ _ _)
  | succ k ih =>
    intro a ha r C2 C3 hr
    have am : a < m := by omega
    obtain ⟨p1, p2, p3⟩ := pp a am
    have he : ∀ x y, (y < b ∨ y = b ∧ x < a + 1) ↔ (y < b ∨ y = b ∧ x < a) ∨ x = a ∧ y = b := by intro x y; omega
    have keep : nj_B D pl m M (fun x y => y < b ∨ y = b ∧ x < a + 1) r → ∀ C2 C3, SW X 3 mX8_layNet E R 110 [.ref (sw_ad X 59), .int s, .int 1, .int (nj_b r), .int (nj_f r), .int (nj_s r), .int (nI b), .int (nI (a + 1)), C2, C3] [] τ := fun z C2 C3 => ih (a + 1) (by omega) r C2 C3 z
    by_cases hM : M a
    · cases hd : D b (pl a) with
      | none =>
        have lv : τ 75 (pl a) = -1 := by rw [hl _ p2, hd]; rfl
        refine SW.iload (q := 112) (i := 7) dX8_layNet_110 rfl rfl ?_
        refine SW.aload_n (q := 113) (i := 0) dX8_layNet_112 rfl rfl rfl ?_
        refine SW.getI (q := 116) (i := 59) fX8_134 rfl rfl dX8_layNet_113 rfl ?_
        refine SW.icmp_ge (q := 119) (tgt := 218) dX8_layNet_116 (by decide) rfl (fun c116 => absurd c116 ((by rw [pm]; exact nI_ge (by omega) (by omega)))) (fun _ => ?_)
        refine SW.iload_n (q := 120) (i := 1) dX8_layNet_119 rfl rfl rfl ?_
        refine SW.iload (q := 122) (i := 7) dX8_layNet_120 rfl rfl ?_
        refine SW.ishr (q := 123) dX8_layNet_122 rfl ?_
        refine SW.iconst (q := 124) (v := 1) dX8_layNet_123 (by decide) rfl ?_
        refine SW.iand (q := 125) dX8_layNet_124 rfl ?_
        refine SW.iconst (q := 126) (v := 1) dX8_layNet_125 (by decide) rfl ?_
        refine SW.icmp_ne (q := 129) (tgt := 144) dX8_layNet_126 (by decide) rfl (fun c126 => absurd ((nb_1 hS m6 am hM)) c126) (fun _ => ?_)
        refine SW.aload_n (q := 130) (i := 0) dX8_layNet_129 rfl rfl rfl ?_
        refine SW.getR (q := 133) (i := 59) (j := 75) fX8_59 rfl rfl dX8_layNet_130 rfl ?_
        refine SW.aload_n (q := 134) (i := 0) dX8_layNet_133 rfl rfl rfl ?_
        refine SW.getR (q := 137) (i := 59) (j := 71) fX8_47 rfl rfl dX8_layNet_134 rfl ?_
        refine SW.iload (q := 139) (i := 7) dX8_layNet_137 rfl rfl ?_
        refine SW.ialdN (q := 140) (k := a) rfl (rfl) (by omega) (by decide) dX8_layNet_139 rfl ?_
        refine SW.ialdN (q := 141) (k := pl a) rfl (p1) (by omega) (by decide) dX8_layNet_140 rfl ?_
        refine SW.goto (q := 145) dX8_layNet_141 (by decide) ?_
        refine SW.istore (q := 147) (i := 8) dX8_layNet_145 (by decide) rfl ?_
        refine SW.iload (q := 149) (i := 8) dX8_layNet_147 rfl rfl ?_
        refine SW.if_lt (q := 152) (tgt := 193) dX8_layNet_149 (by decide) rfl (fun _ => ?_) (fun c149 => absurd ((by rw [lv]; decide)) c149)
        refine SW.iconst (q := 194) (v := 0) dX8_layNet_193 (by decide) rfl ?_
        refine SW.istore (q := 196) (i := 9) dX8_layNet_194 (by decide) rfl ?_
        refine SW.iload (q := 198) (i := 9) dX8_layNet_196 rfl rfl ?_
        refine SW.if_eq (q := 201) (tgt := 212) dX8_layNet_198 (by decide) rfl (fun _ => ?_) (fun c198 => absurd (rfl) c198)
        refine SW.iinc (q := 215) (v := _ + 1) dX8_layNet_212 rfl rfl (by decide) rfl ?_
        refine SW.goto (q := 110) dX8_layNet_215 (by decide) ?_
        exact SW.eq (by rw [nI_1]; rfl) rfl rfl (keep (nj_no hr he (fun c z => by have := z.2.2.2.2; rw [hd] at this; cases this)) _ _)
      | some c =>
        have cb := hbd (pl a) b c hbm hd
        have lv : τ 75 (pl a) = nI c := by rw [hl _ p2, hd]; rfl
        have cand : nj_c D pl m M a b c := ⟨am, hbm, hM, hMb, hd⟩
        have take : nj_B D pl m M (fun x y => y < b ∨ y = b ∧ x < a + 1) (some (a, b, c)) → ∀ C2 C3, SW X 3 mX8_layNet E R 110 [.ref (sw_ad X 59), .int s, .int 1, .int (nI c), .int (nI a), .int (nI b), .int (nI b), .int (nI (a + 1)), C2, C3] [] τ := fun z C2 C3 => ih (a + 1) (by omega) (some (a, b, c)) C2 C3 z
        cases r with
        | none =>
          refine SW.iload (q := 112) (i := 7) dX8_layNet_110 rfl rfl ?_
          refine SW.aload_n (q := 113) (i := 0) dX8_layNet_112 rfl rfl rfl ?_
          refine SW.getI (q := 116) (i := 59) fX8_134 rfl rfl dX8_layNet_113 rfl ?_
          refine SW.icmp_ge (q := 119) (tgt := 218) dX8_layNet_116 (by decide) rfl (fun c116 => absurd c116 ((by rw [pm]; exact nI_ge (by omega) (by omega)))) (fun _ => ?_)
          refine SW.iload_n (q := 120) (i := 1) dX8_layNet_119 rfl rfl rfl ?_
          refine SW.iload (q := 122) (i := 7) dX8_layNet_120 rfl rfl ?_
          refine SW.ishr (q := 123) dX8_layNet_122 rfl ?_
          refine SW.iconst (q := 124) (v := 1) dX8_layNet_123 (by decide) rfl ?_
          refine SW.iand (q := 125) dX8_layNet_124 rfl ?_
          refine SW.iconst (q := 126) (v := 1) dX8_layNet_125 (by decide) rfl ?_
          refine SW.icmp_ne (q := 129) (tgt := 144) dX8_layNet_126 (by decide) rfl (fun c126 => absurd ((nb_1 hS m6 am hM)) c126) (fun _ => ?_)
          refine SW.aload_n (q := 130) (i := 0) dX8_layNet_129 rfl rfl rfl ?_
          refine SW.getR (q := 133) (i := 59) (j := 75) fX8_59 rfl rfl dX8_layNet_130 rfl ?_
          refine SW.aload_n (q := 134) (i := 0) dX8_layNet_133 rfl rfl rfl ?_
          refine SW.getR (q := 137) (i := 59) (j := 71) fX8_47 rfl rfl dX8_layNet_134 rfl ?_
          refine SW.iload (q := 139) (i := 7) dX8_layNet_137 rfl rfl ?_
          refine SW.ialdN (q := 140) (k := a) rfl (rfl) (by omega) (by decide) dX8_layNet_139 rfl ?_
          refine SW.ialdN (q := 141) (k := pl a) rfl (p1) (by omega) (by decide) dX8_layNet_140 rfl ?_
          refine SW.goto (q := 145) dX8_layNet_141 (by decide) ?_
          refine SW.istore (q := 147) (i := 8) dX8_layNet_145 (by decide) rfl ?_
          refine SW.iload (q := 149) (i := 8) dX8_layNet_147 rfl rfl ?_
          refine SW.if_lt (q := 152) (tgt := 193) dX8_layNet_149 (by decide) rfl (fun c149 => absurd c149 ((by rw [lv]; exact nI_pos (by omega)))) (fun _ => ?_)
          refine SW.iload_n (q := 153) (i := 3) dX8_layNet_152 rfl rfl rfl ?_
          refine SW.if_lt (q := 156) (tgt := 189) dX8_layNet_153 (by decide) rfl (fun _ => ?_) (fun c153 => absurd ((by decide)) c153)
          refine SW.iconst (q := 190) (v := 1) dX8_layNet_189 (by decide) rfl ?_
          refine SW.goto (q := 194) dX8_layNet_190 (by decide) ?_
          refine SW.istore (q := 196) (i := 9) dX8_layNet_194 (by decide) rfl ?_
          refine SW.iload (q := 198) (i := 9) dX8_layNet_196 rfl rfl ?_
          refine SW.if_eq (q := 201) (tgt := 212) dX8_layNet_198 (by decide) rfl (fun c198 => absurd c198 ((by decide))) (fun _ => ?_)
          refine SW.iload (q := 203) (i := 8) dX8_layNet_201 rfl rfl ?_
          refine SW.istore_n (q := 204) (i := 3) dX8_layNet_203 rfl (by decide) rfl ?_
          refine SW.iload (q := 206) (i := 7) dX8_layNet_204 rfl rfl ?_
          refine SW.istore (q := 208) (i := 4) dX8_layNet_206 (by decide) rfl ?_
          refine SW.iload (q := 210) (i := 6) dX8_layNet_208 rfl rfl ?_
          refine SW.istore (q := 212) (i := 5) dX8_layNet_210 (by decide) rfl ?_
          refine SW.iinc (q := 215) (v := _ + 1) dX8_layNet_212 rfl rfl (by decide) rfl ?_
          refine SW.goto (q := 110) dX8_layNet_215 (by decide) ?_
          exact SW.eq (by rw [nI_1, lv]; rfl) rfl rfl (take (nj_take hr he cand (fun a0 b0 c0 e => by cases e)) _ _)
        | some w =>
          obtain ⟨a0, b0, c0⟩ := w
          have bi : nj_b (some (a0, b0, c0)) = nI c0 := rfl
          have fi : nj_f (some (a0, b0, c0)) = nI a0 := rfl
          have si : nj_s (some (a0, b0, c0)) = nI b0 := rfl
          have cb0 := hbd (pl a0) b0 c0 hr.2.1.2.1 hr.2.1.2.2.2.2
          have sc := hr.1
          have a0m := hr.2.1.1
          have b0m := hr.2.1.2.1
          by_cases k1 : c < c0
          · refine SW.iload (q := 112) (i := 7) dX8_layNet_110 rfl rfl ?_
            refine SW.aload_n (q := 113) (i := 0) dX8_layNet_112 rfl rfl rfl ?_
            refine SW.getI (q := 116) (i := 59) fX8_134 rfl rfl dX8_layNet_113 rfl ?_
            refine SW.icmp_ge (q := 119) (tgt := 218) dX8_layNet_116 (by decide) rfl (fun c116 => absurd c116 ((by rw [pm]; exact nI_ge (by omega) (by omega)))) (fun _ => ?_)
            refine SW.iload_n (q := 120) (i := 1) dX8_layNet_119 rfl rfl rfl ?_
            refine SW.iload (q := 122) (i := 7) dX8_layNet_120 rfl rfl ?_
            refine SW.ishr (q := 123) dX8_layNet_122 rfl ?_
            refine SW.iconst (q := 124) (v := 1) dX8_layNet_123 (by decide) rfl ?_
            refine SW.iand (q := 125) dX8_layNet_124 rfl ?_
            refine SW.iconst (q := 126) (v := 1) dX8_layNet_125 (by decide) rfl ?_
            refine SW.icmp_ne (q := 129) (tgt := 144) dX8_layNet_126 (by decide) rfl (fun c126 => absurd ((nb_1 hS m6 am hM)) c126) (fun _ => ?_)
            refine SW.aload_n (q := 130) (i := 0) dX8_layNet_129 rfl rfl rfl ?_
            refine SW.getR (q := 133) (i := 59) (j := 75) fX8_59 rfl rfl dX8_layNet_130 rfl ?_
            refine SW.aload_n (q := 134) (i := 0) dX8_layNet_133 rfl rfl rfl ?_
            refine SW.getR (q := 137) (i := 59) (j := 71) fX8_47 rfl rfl dX8_layNet_134 rfl ?_
            refine SW.iload (q := 139) (i := 7) dX8_layNet_137 rfl rfl ?_
            refine SW.ialdN (q := 140) (k := a) rfl (rfl) (by omega) (by decide) dX8_layNet_139 rfl ?_
            refine SW.ialdN (q := 141) (k := pl a) rfl (p1) (by omega) (by decide) dX8_layNet_140 rfl ?_
            refine SW.goto (q := 145) dX8_layNet_141 (by decide) ?_
            refine SW.istore (q := 147) (i := 8) dX8_layNet_145 (by decide) rfl ?_
            refine SW.iload (q := 149) (i := 8) dX8_layNet_147 rfl rfl ?_
            refine SW.if_lt (q := 152) (tgt := 193) dX8_layNet_149 (by decide) rfl (fun c149 => absurd c149 ((by rw [lv]; exact nI_pos (by omega)))) (fun _ => ?_)
            refine SW.iload_n (q := 153) (i := 3) dX8_layNet_152 rfl rfl rfl ?_
            refine SW.if_lt (q := 156) (tgt := 189) dX8_layNet_153 (by decide) rfl (fun c153 => absurd c153 ((by rw [bi]; exact nI_pos (by omega)))) (fun _ => ?_)
            refine SW.iload (q := 158) (i := 8) dX8_layNet_156 rfl rfl ?_
            refine SW.iload_n (q := 159) (i := 3) dX8_layNet_158 rfl rfl rfl ?_
            refine SW.icmp_lt (q := 162) (tgt := 189) dX8_layNet_159 (by decide) rfl (fun _ => ?_) (fun c159 => absurd ((by rw [lv, bi]; exact Int32.not_le.mp (nI_ge k1 (by omega)))) c159)
            refine SW.iconst (q := 190) (v := 1) dX8_layNet_189 (by decide) rfl ?_
            refine SW.goto (q := 194) dX8_layNet_190 (by decide) ?_
            refine SW.istore (q := 196) (i := 9) dX8_layNet_194 (by decide) rfl ?_
            refine SW.iload (q := 198) (i := 9) dX8_layNet_196 rfl rfl ?_
            refine SW.if_eq (q := 201) (tgt := 212) dX8_layNet_198 (by decide) rfl (fun c198 => absurd c198 ((by decide))) (fun _ => ?_)
            refine SW.iload (q := 203) (i := 8) dX8_layNet_201 rfl rfl ?_
            refine SW.istore_n (q := 204) (i := 3) dX8_layNet_203 rfl (by decide) rfl ?_
            refine SW.iload (q := 206) (i := 7) dX8_layNet_204 rfl rfl ?_
            refine SW.istore (q := 208) (i := 4) dX8_layNet_206 (by decide) rfl ?_
            refine SW.iload (q := 210) (i := 6) dX8_layNet_208 rfl rfl ?_
            refine SW.istore (q := 212) (i := 5) dX8_layNet_210 (by decide) rfl ?_
            refine SW.iinc (q := 215) (v := _ + 1) dX8_layNet_212 rfl rfl (by decide) rfl ?_
            refine SW.goto (q := 110) dX8_layNet_215 (by decide) ?_
            exact SW.eq (by rw [nI_1, lv]; rfl) rfl rfl (take (nj_take hr he cand (fun a1 b1 c1 e => by cases e; exact Or.inl k1)) _ _)
          · have n1 : ¬ nI c < nI c0 := Int32.not_lt.mpr (nI_le (by omega) (by omega))
            by_cases k2 : c = c0
            · by_cases k3 : a < a0
              · refine SW.iload (q := 112) (i := 7) dX8_layNet_110 rfl rfl ?_
                refine SW.aload_n (q := 113) (i := 0) dX8_layNet_112 rfl rfl rfl ?_
                refine SW.getI (q := 116) (i := 59) fX8_134 rfl rfl dX8_layNet_113 rfl ?_
                refine SW.icmp_ge (q := 119) (tgt := 218) dX8_layNet_116 (by decide) rfl (fun c116 => absurd c116 ((by rw [pm]; exact nI_ge (by omega) (by omega)))) (fun _ => ?_)
                refine SW.iload_n (q := 120) (i := 1) dX8_layNet_119 rfl rfl rfl ?_
                refine SW.iload (q := 122) (i := 7) dX8_layNet_120 rfl rfl ?_
                refine SW.ishr (q := 123) dX8_layNet_122 rfl ?_
                refine SW.iconst (q := 124) (v := 1) dX8_layNet_123 (by decide) rfl ?_
                refine SW.iand (q := 125) dX8_layNet_124 rfl ?_
                refine SW.iconst (q := 126) (v := 1) dX8_layNet_125 (by decide) rfl ?_
                refine SW.icmp_ne (q := 129) (tgt := 144) dX8_layNet_126 (by decide) rfl (fun c126 => absurd ((nb_1 hS m6 am hM)) c126) (fun _ => ?_)
                refine SW.aload_n (q := 130) (i := 0) dX8_layNet_129 rfl rfl rfl ?_
                refine SW.getR (q := 133) (i := 59) (j := 75) fX8_59 rfl rfl dX8_layNet_130 rfl ?_
                refine SW.aload_n (q := 134) (i := 0) dX8_layNet_133 rfl rfl rfl ?_
                refine SW.getR (q := 137) (i := 59) (j := 71) fX8_47 rfl rfl dX8_layNet_134 rfl ?_
                refine SW.iload (q := 139) (i := 7) dX8_layNet_137 rfl rfl ?_
                refine SW.ialdN (q := 140) (k := a) rfl (rfl) (by omega) (by decide) dX8_layNet_139 rfl ?_
                refine SW.ialdN (q := 141) (k := pl a) rfl (p1) (by omega) (by decide) dX8_layNet_140 rfl ?_
                refine SW.goto (q := 145) dX8_layNet_141 (by decide) ?_
                refine SW.istore (q := 147) (i := 8) dX8_layNet_145 (by decide) rfl ?_
                refine SW.iload (q := 149) (i := 8) dX8_layNet_147 rfl rfl ?_
                refine SW.if_lt (q := 152) (tgt := 193) dX8_layNet_149 (by decide) rfl (fun c149 => absurd c149 ((by rw [lv]; exact nI_pos (by omega)))) (fun _ => ?_)
                refine SW.iload_n (q := 153) (i := 3) dX8_layNet_152 rfl rfl rfl ?_
                refine SW.if_lt (q := 156) (tgt := 189) dX8_layNet_153 (by decide) rfl (fun c153 => absurd c153 ((by rw [bi]; exact nI_pos (by omega)))) (fun _ => ?_)
                refine SW.iload (q := 158) (i := 8) dX8_layNet_156 rfl rfl ?_
                refine SW.iload_n (q := 159) (i := 3) dX8_layNet_158 rfl rfl rfl ?_
                refine SW.icmp_lt (q := 162) (tgt := 189) dX8_layNet_159 (by decide) rfl (fun c159 => absurd c159 ((by rw [lv, bi]; exact n1))) (fun _ => ?_)
                refine SW.iload (q := 164) (i := 8) dX8_layNet_162 rfl rfl ?_
                refine SW.iload_n (q := 165) (i := 3) dX8_layNet_164 rfl rfl rfl ?_
                refine SW.icmp_ne (q := 168) (tgt := 193) dX8_layNet_165 (by decide) rfl (fun c165 => absurd ((by rw [lv, bi, k2])) c165) (fun _ => ?_)
                refine SW.iload (q := 170) (i := 7) dX8_layNet_168 rfl rfl ?_
                refine SW.iload (q := 172) (i := 4) dX8_layNet_170 rfl rfl ?_
                refine SW.icmp_lt (q := 175) (tgt := 189) dX8_layNet_172 (by decide) rfl (fun _ => ?_) (fun c172 => absurd ((by rw [fi]; exact Int32.not_le.mp (nI_ge k3 (by omega)))) c172)
                refine SW.iconst (q := 190) (v := 1) dX8_layNet_189 (by decide) rfl ?_
                refine SW.goto (q := 194) dX8_layNet_190 (by decide) ?_
                refine SW.istore (q := 196) (i := 9) dX8_layNet_194 (by decide) rfl ?_
                refine SW.iload (q := 198) (i := 9) dX8_layNet_196 rfl rfl ?_
                refine SW.if_eq (q := 201) (tgt := 212) dX8_layNet_198 (by decide) rfl (fun c198 => absurd c198 ((by decide))) (fun _ => ?_)
                refine SW.iload (q := 203) (i := 8) dX8_layNet_201 rfl rfl ?_
                refine SW.istore_n (q := 204) (i := 3) dX8_layNet_203 rfl (by decide) rfl ?_
                refine SW.iload (q := 206) (i := 7) dX8_layNet_204 rfl rfl ?_
                refine SW.istore (q := 208) (i := 4) dX8_layNet_206 (by decide) rfl ?_
                refine SW.iload (q := 210) (i := 6) dX8_layNet_208 rfl rfl ?_
                refine SW.istore (q := 212) (i := 5) dX8_layNet_210 (by decide) rfl ?_
                refine SW.iinc (q := 215) (v := _ + 1) dX8_layNet_212 rfl rfl (by decide) rfl ?_
                refine SW.goto (q := 110) dX8_layNet_215 (by decide) ?_
                exact SW.eq (by rw [nI_1, lv]; rfl) rfl rfl (take (nj_take hr he cand (fun a1 b1 c1 e => by cases e; exact Or.inr ⟨k2, Or.inl k3⟩)) _ _)
              · have n3 : ¬ nI a < nI a0 := Int32.not_lt.mpr (nI_le (by omega) (by omega))
                by_cases k4 : a = a0
                · refine SW.iload (q := 112) (i := 7) dX8_layNet_110 rfl rfl ?_
                  refine SW.aload_n (q := 113) (i := 0) dX8_layNet_112 rfl rfl rfl ?_
                  refine SW.getI (q := 116) (i := 59) fX8_134 rfl rfl dX8_layNet_113 rfl ?_
                  refine SW.icmp_ge (q := 119) (tgt := 218) dX8_layNet_116 (by decide) rfl (fun c116 => absurd c116 ((by rw [pm]; exact nI_ge (by omega) (by omega)))) (fun _ => ?_)
                  refine SW.iload_n (q := 120) (i := 1) dX8_layNet_119 rfl rfl rfl ?_
                  refine SW.iload (q := 122) (i := 7) dX8_layNet_120 rfl rfl ?_
                  refine SW.ishr (q := 123) dX8_layNet_122 rfl ?_
                  refine SW.iconst (q := 124) (v := 1) dX8_layNet_123 (by decide) rfl ?_
                  refine SW.iand (q := 125) dX8_layNet_124 rfl ?_
                  refine SW.iconst (q := 126) (v := 1) dX8_layNet_125 (by decide) rfl ?_
                  refine SW.icmp_ne (q := 129) (tgt := 144) dX8_layNet_126 (by decide) rfl (fun c126 => absurd ((nb_1 hS m6 am hM)) c126) (fun _ => ?_)
                  refine SW.aload_n (q := 130) (i := 0) dX8_layNet_129 rfl rfl rfl ?_
                  refine SW.getR (q := 133) (i := 59) (j := 75) fX8_59 rfl rfl dX8_layNet_130 rfl ?_
                  refine SW.aload_n (q := 134) (i := 0) dX8_layNet_133 rfl rfl rfl ?_
                  refine SW.getR (q := 137) (i := 59) (j := 71) fX8_47 rfl rfl dX8_layNet_134 rfl ?_
                  refine SW.iload (q := 139) (i := 7) dX8_layNet_137 rfl rfl ?_
                  refine SW.ialdN (q := 140) (k := a) rfl (rfl) (by omega) (by decide) dX8_layNet_139 rfl ?_
                  refine SW.ialdN (q := 141) (k := pl a) rfl (p1) (by omega) (by decide) dX8_layNet_140 rfl ?_
                  refine SW.goto (q := 145) dX8_layNet_141 (by decide) ?_
                  refine SW.istore (q := 147) (i := 8) dX8_layNet_145 (by decide) rfl ?_
                  refine SW.iload (q := 149) (i := 8) dX8_layNet_147 rfl rfl ?_
                  refine SW.if_lt (q := 152) (tgt := 193) dX8_layNet_149 (by decide) rfl (fun c149 => absurd c149 ((by rw [lv]; exact nI_pos (by omega)))) (fun _ => ?_)
                  refine SW.iload_n (q := 153) (i := 3) dX8_layNet_152 rfl rfl rfl ?_
                  refine SW.if_lt (q := 156) (tgt := 189) dX8_layNet_153 (by decide) rfl (fun c153 => absurd c153 ((by rw [bi]; exact nI_pos (by omega)))) (fun _ => ?_)
                  refine SW.iload (q := 158) (i := 8) dX8_layNet_156 rfl rfl ?_
                  refine SW.iload_n (q := 159) (i := 3) dX8_layNet_158 rfl rfl rfl ?_
                  refine SW.icmp_lt (q := 162) (tgt := 189) dX8_layNet_159 (by decide) rfl (fun c159 => absurd c159 ((by rw [lv, bi]; exact n1))) (fun _ => ?_)
                  refine SW.iload (q := 164) (i := 8) dX8_layNet_162 rfl rfl ?_
                  refine SW.iload_n (q := 165) (i := 3) dX8_layNet_164 rfl rfl rfl ?_
                  refine SW.icmp_ne (q := 168) (tgt := 193) dX8_layNet_165 (by decide) rfl (fun c165 => absurd ((by rw [lv, bi, k2])) c165) (fun _ => ?_)
                  refine SW.iload (q := 170) (i := 7) dX8_layNet_168 rfl rfl ?_
                  refine SW.iload (q := 172) (i := 4) dX8_layNet_170 rfl rfl ?_
                  refine SW.icmp_lt (q := 175) (tgt := 189) dX8_layNet_172 (by decide) rfl (fun c172 => absurd c172 ((by rw [fi]; exact n3))) (fun _ => ?_)
                  refine SW.iload (q := 177) (i := 7) dX8_layNet_175 rfl rfl ?_
                  refine SW.iload (q := 179) (i := 4) dX8_layNet_177 rfl rfl ?_
                  refine SW.icmp_ne (q := 182) (tgt := 193) dX8_layNet_179 (by decide) rfl (fun c179 => absurd ((by rw [fi, k4])) c179) (fun _ => ?_)
                  refine SW.iload (q := 184) (i := 6) dX8_layNet_182 rfl rfl ?_
                  refine SW.iload (q := 186) (i := 5) dX8_layNet_184 rfl rfl ?_
                  refine SW.icmp_ge (q := 189) (tgt := 193) dX8_layNet_186 (by decide) rfl (fun _ => ?_) (fun c186 => absurd ((by rw [si]; exact nI_le (by omega) (by omega))) c186)
                  refine SW.iconst (q := 194) (v := 0) dX8_layNet_193 (by decide) rfl ?_
                  refine SW.istore (q := 196) (i := 9) dX8_layNet_194 (by decide) rfl ?_
                  refine SW.iload (q := 198) (i := 9) dX8_layNet_196 rfl rfl ?_
                  refine SW.if_eq (q := 201) (tgt := 212) dX8_layNet_198 (by decide) rfl (fun _ => ?_) (fun c198 => absurd (rfl) c198)
                  refine SW.iinc (q := 215) (v := _ + 1) dX8_layNet_212 rfl rfl (by decide) rfl ?_
                  refine SW.goto (q := 110) dX8_layNet_215 (by decide) ?_
                  exact SW.eq (by rw [nI_1]; rfl) rfl rfl (keep (nj_keep hr he cand (by unfold nj_le; omega)) _ _)
                · refine SW.iload (q := 112) (i := 7) dX8_layNet_110 rfl rfl ?_
                  refine SW.aload_n (q := 113) (i := 0) dX8_layNet_112 rfl rfl rfl ?_
                  refine SW.getI (q := 116) (i := 59) fX8_134 rfl rfl dX8_layNet_113 rfl ?_
                  refine SW.icmp_ge (q := 119) (tgt := 218) dX8_layNet_116 (by decide) rfl (fun c116 => absurd c116 ((by rw [pm]; exact nI_ge (by omega) (by omega)))) (fun _ => ?_)
                  refine SW.iload_n (q := 120) (i := 1) dX8_layNet_119 rfl rfl rfl ?_
                  refine SW.iload (q := 122) (i := 7) dX8_layNet_120 rfl rfl ?_
                  refine SW.ishr (q := 123) dX8_layNet_122 rfl ?_
                  refine SW.iconst (q := 124) (v := 1) dX8_layNet_123 (by decide) rfl ?_
                  refine SW.iand (q := 125) dX8_layNet_124 rfl ?_
                  refine SW.iconst (q := 126) (v := 1) dX8_layNet_125 (by decide) rfl ?_
                  refine SW.icmp_ne (q := 129) (tgt := 144) dX8_layNet_126 (by decide) rfl (fun c126 => absurd ((nb_1 hS m6 am hM)) c126) (fun _ => ?_)
                  refine SW.aload_n (q := 130) (i := 0) dX8_layNet_129 rfl rfl rfl ?_
                  refine SW.getR (q := 133) (i := 59) (j := 75) fX8_59 rfl rfl dX8_layNet_130 rfl ?_
                  refine SW.aload_n (q := 134) (i := 0) dX8_layNet_133 rfl rfl rfl ?_
                  refine SW.getR (q := 137) (i := 59) (j := 71) fX8_47 rfl rfl dX8_layNet_134 rfl ?_
                  refine SW.iload (q := 139) (i := 7) dX8_layNet_137 rfl rfl ?_
                  refine SW.ialdN (q := 140) (k := a) rfl (rfl) (by omega) (by decide) dX8_layNet_139 rfl ?_
                  refine SW.ialdN (q := 141) (k := pl a) rfl (p1) (by omega) (by decide) dX8_layNet_140 rfl ?_
                  refine SW.goto (q := 145) dX8_layNet_141 (by decide) ?_
                  refine SW.istore (q := 147) (i := 8) dX8_layNet_145 (by decide) rfl ?_
                  refine SW.iload (q := 149) (i := 8) dX8_layNet_147 rfl rfl ?_
                  refine SW.if_lt (q := 152) (tgt := 193) dX8_layNet_149 (by decide) rfl (fun c149 => absurd c149 ((by rw [lv]; exact nI_pos (by omega)))) (fun _ => ?_)
                  refine SW.iload_n (q := 153) (i := 3) dX8_layNet_152 rfl rfl rfl ?_
                  refine SW.if_lt (q := 156) (tgt := 189) dX8_layNet_153 (by decide) rfl (fun c153 => absurd c153 ((by rw [bi]; exact nI_pos (by omega)))) (fun _ => ?_)
                  refine SW.iload (q := 158) (i := 8) dX8_layNet_156 rfl rfl ?_
                  refine SW.iload_n (q := 159) (i := 3) dX8_layNet_158 rfl rfl rfl ?_
                  refine SW.icmp_lt (q := 162) (tgt := 189) dX8_layNet_159 (by decide) rfl (fun c159 => absurd c159 ((by rw [lv, bi]; exact n1))) (fun _ => ?_)
                  refine SW.iload (q := 164) (i := 8) dX8_layNet_162 rfl rfl ?_
                  refine SW.iload_n (q := 165) (i := 3) dX8_layNet_164 rfl rfl rfl ?_
                  refine SW.icmp_ne (q := 168) (tgt := 193) dX8_layNet_165 (by decide) rfl (fun c165 => absurd ((by rw [lv, bi, k2])) c165) (fun _ => ?_)
                  refine SW.iload (q := 170) (i := 7) dX8_layNet_168 rfl rfl ?_
                  refine SW.iload (q := 172) (i := 4) dX8_layNet_170 rfl rfl ?_
                  refine SW.icmp_lt (q := 175) (tgt := 189) dX8_layNet_172 (by decide) rfl (fun c172 => absurd c172 ((by rw [fi]; exact n3))) (fun _ => ?_)
                  refine SW.iload (q := 177) (i := 7) dX8_layNet_175 rfl rfl ?_
                  refine SW.iload (q := 179) (i := 4) dX8_layNet_177 rfl rfl ?_
                  refine SW.icmp_ne (q := 182) (tgt := 193) dX8_layNet_179 (by decide) rfl (fun _ => ?_) (fun c179 => absurd c179 ((by rw [fi, nI_eq (by omega) (by omega)]; exact k4)))
                  refine SW.iconst (q := 194) (v := 0) dX8_layNet_193 (by decide) rfl ?_
                  refine SW.istore (q := 196) (i := 9) dX8_layNet_194 (by decide) rfl ?_
                  refine SW.iload (q := 198) (i := 9) dX8_layNet_196 rfl rfl ?_
                  refine SW.if_eq (q := 201) (tgt := 212) dX8_layNet_198 (by decide) rfl (fun _ => ?_) (fun c198 => absurd (rfl) c198)
                  refine SW.iinc (q := 215) (v := _ + 1) dX8_layNet_212 rfl rfl (by decide) rfl ?_
                  refine SW.goto (q := 110) dX8_layNet_215 (by decide) ?_
                  exact SW.eq (by rw [nI_1]; rfl) rfl rfl (keep (nj_keep hr he cand (by unfold nj_le; omega)) _ _)
            · refine SW.iload (q := 112) (i := 7) dX8_layNet_110 rfl rfl ?_
              refine SW.aload_n (q := 113) (i := 0) dX8_layNet_112 rfl rfl rfl ?_
              refine SW.getI (q := 116) (i := 59) fX8_134 rfl rfl dX8_layNet_113 rfl ?_
              refine SW.icmp_ge (q := 119) (tgt := 218) dX8_layNet_116 (by decide) rfl (fun c116 => absurd c116 ((by rw [pm]; exact nI_ge (by omega) (by omega)))) (fun _ => ?_)
              refine SW.iload_n (q := 120) (i := 1) dX8_layNet_119 rfl rfl rfl ?_
              refine SW.iload (q := 122) (i := 7) dX8_layNet_120 rfl rfl ?_
              refine SW.ishr (q := 123) dX8_layNet_122 rfl ?_
              refine SW.iconst (q := 124) (v := 1) dX8_layNet_123 (by decide) rfl ?_
              refine SW.iand (q := 125) dX8_layNet_124 rfl ?_
              refine SW.iconst (q := 126) (v := 1) dX8_layNet_125 (by decide) rfl ?_
              refine SW.icmp_ne (q := 129) (tgt := 144) dX8_layNet_126 (by decide) rfl (fun c126 => absurd ((nb_1 hS m6 am hM)) c126) (fun _ => ?_)
              refine SW.aload_n (q := 130) (i := 0) dX8_layNet_129 rfl rfl rfl ?_
              refine SW.getR (q := 133) (i := 59) (j := 75) fX8_59 rfl rfl dX8_layNet_130 rfl ?_
              refine SW.aload_n (q := 134) (i := 0) dX8_layNet_133 rfl rfl rfl ?_
              refine SW.getR (q := 137) (i := 59) (j := 71) fX8_47 rfl rfl dX8_layNet_134 rfl ?_
              refine SW.iload (q := 139) (i := 7) dX8_layNet_137 rfl rfl ?_
              refine SW.ialdN (q := 140) (k := a) rfl (rfl) (by omega) (by decide) dX8_layNet_139 rfl ?_
              refine SW.ialdN (q := 141) (k := pl a) rfl (p1) (by omega) (by decide) dX8_layNet_140 rfl ?_
              refine SW.goto (q := 145) dX8_layNet_141 (by decide) ?_
              refine SW.istore (q := 147) (i := 8) dX8_layNet_145 (by decide) rfl ?_
              refine SW.iload (q := 149) (i := 8) dX8_layNet_147 rfl rfl ?_
              refine SW.if_lt (q := 152) (tgt := 193) dX8_layNet_149 (by decide) rfl (fun c149 => absurd c149 ((by rw [lv]; exact nI_pos (by omega)))) (fun _ => ?_)
              refine SW.iload_n (q := 153) (i := 3) dX8_layNet_152 rfl rfl rfl ?_
              refine SW.if_lt (q := 156) (tgt := 189) dX8_layNet_153 (by decide) rfl (fun c153 => absurd c153 ((by rw [bi]; exact nI_pos (by omega)))) (fun _ => ?_)
              refine SW.iload (q := 158) (i := 8) dX8_layNet_156 rfl rfl ?_
              refine SW.iload_n (q := 159) (i := 3) dX8_layNet_158 rfl rfl rfl ?_
              refine SW.icmp_lt (q := 162) (tgt := 189) dX8_layNet_159 (by decide) rfl (fun c159 => absurd c159 ((by rw [lv, bi]; exact n1))) (fun _ => ?_)
              refine SW.iload (q := 164) (i := 8) dX8_layNet_162 rfl rfl ?_
              refine SW.iload_n (q := 165) (i := 3) dX8_layNet_164 rfl rfl rfl ?_
              refine SW.icmp_ne (q := 168) (tgt := 193) dX8_layNet_165 (by decide) rfl (fun _ => ?_) (fun c165 => absurd c165 ((by rw [lv, bi, nI_eq (by omega) (by omega)]; exact k2)))
              refine SW.iconst (q := 194) (v := 0) dX8_layNet_193 (by decide) rfl ?_
              refine SW.istore (q := 196) (i := 9) dX8_layNet_194 (by decide) rfl ?_
              refine SW.iload (q := 198) (i := 9) dX8_layNet_196 rfl rfl ?_
              refine SW.if_eq (q := 201) (tgt := 212) dX8_layNet_198 (by decide) rfl (fun _ => ?_) (fun c198 => absurd (rfl) c198)
              refine SW.iinc (q := 215) (v := _ + 1) dX8_layNet_212 rfl rfl (by decide) rfl ?_
              refine SW.goto (q := 110) dX8_layNet_215 (by decide) ?_
              exact SW.eq (by rw [nI_1]; rfl) rfl rfl (keep (nj_keep hr he cand (by unfold nj_le; omega)) _ _)
    · refine SW.iload (q := 112) (i := 7) dX8_layNet_110 rfl rfl ?_
      refine SW.aload_n (q := 113) (i := 0) dX8_layNet_112 rfl rfl rfl ?_
      refine SW.getI (q := 116) (i := 59) fX8_134 rfl rfl dX8_layNet_113 rfl ?_
      refine SW.icmp_ge (q := 119) (tgt := 218) dX8_layNet_116 (by decide) rfl (fun c116 => absurd c116 ((by rw [pm]; exact nI_ge (by omega) (by omega)))) (fun _ => ?_)
      refine SW.iload_n (q := 120) (i := 1) dX8_layNet_119 rfl rfl rfl ?_
      refine SW.iload (q := 122) (i := 7) dX8_layNet_120 rfl rfl ?_
      refine SW.ishr (q := 123) dX8_layNet_122 rfl ?_
      refine SW.iconst (q := 124) (v := 1) dX8_layNet_123 (by decide) rfl ?_
      refine SW.iand (q := 125) dX8_layNet_124 rfl ?_
      refine SW.iconst (q := 126) (v := 1) dX8_layNet_125 (by decide) rfl ?_
      refine SW.icmp_ne (q := 129) (tgt := 144) dX8_layNet_126 (by decide) rfl (fun _ => ?_) (fun c126 => absurd c126 ((by rw [nb_0 hS m6 am hM]; decide)))
      refine SW.iconst (q := 145) (v := (-1)) dX8_layNet_144 (by decide) rfl ?_
      refine SW.istore (q := 147) (i := 8) dX8_layNet_145 (by decide) rfl ?_
      refine SW.iload (q := 149) (i := 8) dX8_layNet_147 rfl rfl ?_
      refine SW.if_lt (q := 152) (tgt := 193) dX8_layNet_149 (by decide) rfl (fun _ => ?_) (fun c149 => absurd ((by decide)) c149)
      refine SW.iconst (q := 194) (v := 0) dX8_layNet_193 (by decide) rfl ?_
      refine SW.istore (q := 196) (i := 9) dX8_layNet_194 (by decide) rfl ?_
      refine SW.iload (q := 198) (i := 9) dX8_layNet_196 rfl rfl ?_
      refine SW.if_eq (q := 201) (tgt := 212) dX8_layNet_198 (by decide) rfl (fun _ => ?_) (fun c198 => absurd (rfl) c198)
      refine SW.iinc (q := 215) (v := _ + 1) dX8_layNet_212 rfl rfl (by decide) rfl ?_
      refine SW.goto (q := 110) dX8_layNet_215 (by decide) ?_
      exact SW.eq (by rw [nI_1]; rfl) rfl rfl (keep (nj_no hr he (fun c z => hM z.2.2.1)) _ _)
end MNET
