/-! the reference: all is laid -/
def mk_ (n a b c sea g br wn : Nat) (τ : sw_Sg) : Prop :=
  (4 ≤ n ∧ n ≤ 24 ∧ τ 59 1 = nI n) ∧ (τ 59 2 = nI a ∧ a ≤ 100000 ∧ τ 59 3 = nI b ∧ b ≤ 100000) ∧ (τ 59 6 = nI c ∧ gr_chs τ 61 62 c) ∧ (τ 60 0 = nI sea ∧ sea ≤ 255 ∧ τ 60 2 = nI g ∧ g ≤ 12 ∧ 1 ≤ g ∧ τ 60 3 = nI br ∧ br ≤ 100) ∧ τ 59 5 = nI wn ∧ wn ≤ 6
def ms_ (n a b c sea g br wn : Nat) (τ : sw_Sg) : Prop := ∃ h : Nat → Nat, (∀ p, p < n * n → gr_ht (τ 59 0) (τ 61) (τ 62) (τ 63) c a b n p = nI (h p) ∧ h p ≤ 400 ∧ τ 64 p = nI (h p)) ∧
  (∃ T lv od D, ww_F n h sea (τ 60 1) T lv od D 65 66 69 67 70 τ) ∧ (τ 59 19 = nI (ct_L n g wn 64 70 69 τ).length ∧ tw_row 71 (ct_L n g wn 64 70 69 τ) τ) ∧
  ∃ D T, nk_N n h (τ 70) br (ct_L n g wn 64 70 69 τ).length (ct_p (ct_L n g wn 64 70 69 τ)) D T ∧ mc_T n h (τ 70) br D (ct_p (ct_L n g wn 64 70 69 τ)) (ct_L n g wn 64 70 69 τ).length T τ
def mI_ (n a b c sea g br wn : Nat) (τ : sw_Sg) : Prop := mk_ n a b c sea g br wn τ ∧ (τ 59 10 = 0 ∨ τ 59 10 = 1 ∧ ms_ n a b c sea g br wn τ)
def mL_ (n a b c sea g br wn : Nat) (τ : sw_Sg) : Prop := mk_ n a b c sea g br wn τ ∧ τ 59 10 = 1 ∧ ms_ n a b c sea g br wn τ
theorem wk_pass (ht sea lv fl st : Int32) : (4 ≤ wk_ ht sea lv fl st) ↔ (wk_ ht sea lv fl st = 4 ∨ wk_ ht sea lv fl st = 8) := by
  unfold wk_
  split
  · decide
  · split
    · decide
    · split <;> decide
section MLAY
variable {X : sw_X} {σ τ u : sw_Sg} {x y v w st what : Int32} {n a b c sea g br wn k s M p iH iK iF : Nat} {L : List Nat} {h : Nat → Nat}
theorem mk_.fr {l ks : List Nat} (z : mk_ n a b c sea g br wn τ) (hf : fr_ l τ u) (hs : fs_ ks τ u) (h : ∀ i ∈ [60, 61, 62], i ∉ l) (h2 : ∀ i ∈ [1, 2, 3, 5, 6], i ∉ ks) : mk_ n a b c sea g br wn u := by
  unfold mk_ gr_chs
  rw [hs 1 (h2 1 (by decide)), hs 2 (h2 2 (by decide)), hs 3 (h2 3 (by decide)), hs 5 (h2 5 (by decide)), hs 6 (h2 6 (by decide)), hf 60 (h 60 (by decide)), hf 61 (h 61 (by decide)), hf 62 (h 62 (by decide))]
  exact z
theorem ct_8 {i q : Nat} (e : (ct_L n g wn iH iK iF τ)[i]? = some q) : τ iK q = 8 ∧ q < n * n := by
  obtain ⟨a1, a2⟩ := ct_ok.1 i q e
  refine ⟨Classical.byContradiction fun z => a2 ?_, a1⟩
  unfold tw_worth
  rw [if_neg z]
theorem ww_pass {T lv od : Nat → Nat} {D : Nat → Option Nat} {iL iD iFl iO : Nat} (hw : ww_F n h sea st T lv od D iL iD iFl iO iK τ) (hp : p < n * n) : (4 ≤ τ iK p ↔ nt_pass (τ iK) p) := by
  unfold nt_pass
  rw [(hw.2 p hp).2.2.2.2.2]
  exact wk_pass _ _ _ _ _
theorem C_X8_lay (hI : mI_ n a b c sea g br wn σ) :
    sw_Mv X 4 mX8_lay [.ref (sw_ad X 59)] σ (fun u => fr_ [59, 64, 65, 66, 67, 68, 69, 70, 71, 72, 73, 74, 75, 76] σ u ∧ fs_ [10, 18, 19, 21, 22, 23] σ u ∧ mL_ n a b c sea g br wn u) := by
  obtain ⟨hK, hl⟩ := hI
  refine sw_ME.ofF (by decide +kernel) rfl (Nat.le_of_ble_eq_true rfl) rfl ?_
  rcases hl with hl | ⟨hl, hS⟩
  rotate_left
  · refine SW.aload_n (q := 1) (i := 0) dX8_lay_0 rfl rfl rfl ?_
    refine SW.getI (q := 4) (i := 59) fX8_76 rfl rfl dX8_lay_1 rfl ?_
    refine SW.if_ne (q := 7) (tgt := 24) dX8_lay_4 (by decide) rfl (fun _ => ?_) (fun c4 => absurd c4 ((by rw [hl]; decide)))
    refine SW.vretR rfl dX8_lay_24 ?_
    exact ⟨fr_rf, fs_rf, hK, hl, hS⟩
  · obtain ⟨hh, eh⟩ : ∃ hh : Nat → Nat, ∀ p, p < n * n → gr_ht (σ 59 0) (σ 61) (σ 62) (σ 63) c a b n p = nI (hh p) ∧ hh p ≤ 400 := by
      refine ⟨fun p => Classical.choose (gr_cl_N (gr_hs (σ 61) (σ 62) (σ 63) (nI (gr_g (σ 59 0) (a + p % n) (b + p / n))) (nI (a + p % n)) (nI (b + p / n)) c)), fun p _ => ?_⟩
      have := Classical.choose_spec (gr_cl_N (gr_hs (σ 61) (σ 62) (σ 63) (nI (gr_g (σ 59 0) (a + p % n) (b + p / n))) (nI (a + p % n)) (nI (b + p / n)) c))
      exact ⟨this.2, this.1⟩
    obtain ⟨⟨n4, n24, q1⟩, ⟨q2, qa, q3, qb⟩, ⟨q4, q5⟩, ⟨q6, q7, q8, q9, q10, q11, q12⟩, q13, q14⟩ := hK
    have J : ∀ τ1, fr_ [59] σ τ1 → fs_ [10] σ τ1 → τ1 59 10 = 1 → SW X 4 mX8_lay sw_E0 (sw_Rv (fun u => fr_ [59, 64, 65, 66, 67, 68, 69, 70, 71, 72, 73, 74, 75, 76] σ u ∧ fs_ [10, 18, 19, 21, 22, 23] σ u ∧ mL_ n a b c sea g br wn u)) 12 [.ref (sw_ad X 59)] [] τ1 := by
      intro τ1 f1 s1 t1
      refine SW.aload_n (q := 13) (i := 0) dX8_lay_12 rfl rfl rfl ?_
      refine SW.cV (q := 16) (C_X8_layWater (n := n) (a := a) (b := b) (c := c) (sea := sea) (st := σ 60 1) (h := hh) ⟨n4, n24, by rw [s1 1 (by decide)]; exact q1⟩ (by rw [s1 2 (by decide)]; exact q2) (by rw [s1 3 (by decide)]; exact q3) qa qb (by rw [s1 6 (by decide)]; exact q4) q5.1 (by rw [f1 60 (by decide)]; exact q6) q7 (by rw [f1 60 (by decide)]) (fun p hp => by rw [s1 0 (by decide), f1 61 (by decide), f1 62 (by decide), f1 63 (by decide)]; exact eh p hp)) vX8_168 (by decide) rfl rfl rfl rfl (Nat.le_of_ble_eq_true rfl) dX8_lay_13 rfl (fun u13 r13 => ?_)
      obtain ⟨w1, w2, w3, T, lv, od, D, w4⟩ := r13
      have s2 : fs_ [10, 18, 19, 21, 22, 23] σ u13 := fs_tr (fs_tr fs_rf s1 (by decide)) w2 (by decide)
      have f2 : fr_ [59, 64, 65, 66, 67, 68, 69, 70] σ u13 := fr_tr (fr_sub f1 (by decide)) w1 (by decide)
      refine SW.aload_n (q := 17) (i := 0) dX8_lay_16 rfl rfl rfl ?_
      refine SW.cV (q := 20) (C_X8_layTowns (n := n) (wn := wn) (g := g) ⟨n4, n24, by rw [s2 1 (by decide)]; exact q1⟩ (by rw [s2 5 (by decide)]; exact q13) q14 (by rw [f2 60 (by decide)]; exact q8) q9 (fun p hp => ⟨hh p, (eh p hp).2, w3 p hp⟩)) vX8_171 (by decide) rfl rfl rfl rfl (Nat.le_of_ble_eq_true rfl) dX8_lay_17 rfl (fun u17 r17 => ?_)
      obtain ⟨v1, v2, v3, v4⟩ := r17
      have s3 : fs_ [10, 18, 19, 21, 22, 23] σ u17 := fs_tr s2 v2 (by decide)
      have f3 : fr_ [59, 64, 65, 66, 67, 68, 69, 70, 71] σ u17 := fr_tr (fr_sub f2 (by decide)) v1 (by decide)
      have e64 : u17 64 = u13 64 := v1 64 (by decide)
      have e70 : u17 70 = u13 70 := v1 70 (by decide)
      have e69 : u17 69 = u13 69 := v1 69 (by decide)
      have eL : ct_L n g wn 64 70 69 u17 = tw_run n g (tw_worth n (u13 64) (u13 70) (u13 69)) wn [] := by unfold ct_L; rw [e64, e70, e69]
      rw [← eL] at v3 v4
      have m6 : (ct_L n g wn 64 70 69 u17).length ≤ 6 := Nat.le_trans ct_len q14
      have hP : mp_ n (ct_L n g wn 64 70 69 u17).length (u17 70) (ct_p (ct_L n g wn 64 70 69 u17)) u17 := ⟨v3, m6, fun t ht => by
        have e := ct_p_e ht
        obtain ⟨k8, kn⟩ := ct_8 e
        exact ⟨v4 t _ e, kn, k8⟩⟩
      have hG : rk_G n hh (u17 70) br u17 := ⟨⟨n4, n24, by rw [s3 1 (by decide)]; exact q1⟩, fun p hp => ⟨by rw [e64]; exact w3 p hp, (eh p hp).2⟩, rfl, by rw [f3 60 (by decide)]; exact q11, q12, fun p hp => by rw [e70]; exact ww_pass w4 hp⟩
      obtain ⟨DD, hD⟩ := nt_exD (n := n) (h := hh) (kd := u17 70) (br := br) (pl := ct_p (ct_L n g wn 64 70 69 u17)) (m := (ct_L n g wn 64 70 69 u17).length) (fun p hp => (eh p hp).2) q12 (fun t ht => (hP.2.2 t ht).2.1)
      refine SW.aload_n (q := 21) (i := 0) dX8_lay_20 rfl rfl rfl ?_
      refine SW.cV (q := 24) (C_X8_layNet hG hP hD) vX8_174 (by decide) rfl rfl rfl rfl (Nat.le_of_ble_eq_true rfl) dX8_lay_21 rfl (fun u21 r21 => ?_)
      obtain ⟨z1, z2, TT, z3, z4⟩ := r21
      refine SW.vretR rfl dX8_lay_24 ?_
      have s4 : fs_ [10, 18, 19, 21, 22, 23] σ u21 := fs_tr s3 z2 (by decide)
      have f4 : fr_ [59, 64, 65, 66, 67, 68, 69, 70, 71, 72, 73, 74, 75, 76] σ u21 := fr_tr (fr_sub f3 (by decide)) z1 (by decide)
      have g64 : u21 64 = u17 64 := z1 64 (by decide)
      have g70 : u21 70 = u17 70 := z1 70 (by decide)
      have g69 : u21 69 = u17 69 := z1 69 (by decide)
      have gL : ct_L n g wn 64 70 69 u21 = ct_L n g wn 64 70 69 u17 := by unfold ct_L; rw [g64, g70, g69]
      have hK : mk_ n a b c sea g br wn σ := ⟨⟨n4, n24, q1⟩, ⟨q2, qa, q3, qb⟩, ⟨q4, q5⟩, ⟨q6, q7, q8, q9, q10, q11, q12⟩, q13, q14⟩
      refine ⟨f4, s4, hK.fr f4 s4 (by decide) (by decide), ?_, hh, fun p hp => ⟨?_, (eh p hp).2, ?_⟩, ⟨T, lv, od, D, ?_⟩, ⟨?_, ?_⟩, DD, TT, ?_, ?_⟩
      · rw [z2 10 (by decide), v2 10 (by decide), w2 10 (by decide)]; exact t1
      · rw [s4 0 (by decide), f4 61 (by decide), f4 62 (by decide), f4 63 (by decide)]; exact (eh p hp).1
      · rw [g64, e64]; exact w3 p hp
      · unfold ww_F
        rw [f4 60 (by decide), z1 65 (by decide), z1 66 (by decide), z1 69 (by decide), z1 67 (by decide), z1 70 (by decide), v1 65 (by decide), v1 66 (by decide), v1 69 (by decide), v1 67 (by decide), v1 70 (by decide)]
        exact w4
      · rw [gL, z2 19 (by decide)]; exact v3
      · rw [gL]; exact v4.fr z1 (by decide)
      · rw [gL, g70]; exact z3
      · rw [gL, g70]; exact z4
    refine SW.aload_n (q := 1) (i := 0) dX8_lay_0 rfl rfl rfl ?_
    refine SW.getI (q := 4) (i := 59) fX8_76 rfl rfl dX8_lay_1 rfl ?_
    refine SW.if_ne (q := 7) (tgt := 24) dX8_lay_4 (by decide) rfl (fun c4 => absurd (hl) c4) (fun _ => ?_)
    refine SW.aload_n (q := 8) (i := 0) dX8_lay_7 rfl rfl rfl ?_
    refine SW.iconst (q := 9) (v := 1) dX8_lay_8 (by decide) rfl ?_
    refine SW.put (q := 12) (i := 59) pX8_76 rfl rfl rfl rfl dX8_lay_9 rfl ?_
    exact J _ (fr_up fr_rf (by decide)) (fs_ups fs_rf (by decide)) sw_i1
end MLAY
