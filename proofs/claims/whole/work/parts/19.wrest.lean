/-! WATER in the class: the others are taken; flows; kinds -/
def wf_acc (T : Nat → Nat) (D : Nat → Option Nat) : Nat → (Nat → Int32) → Nat → Int32
  | 0, f => f
  | k + 1, f => wf_acc T D k (match D (T k) with | none => f | some r => upd f r (f r + f (T k)))
/-- the flows of all places -/
def wf_ (n : Nat) (T : Nat → Nat) (D : Nat → Option Nat) : Nat → Int32 := wf_acc T D (n * n) (fun _ => 1)
theorem wf_congr {N : Nat} {T T' : Nat → Nat} {D D' : Nat → Option Nat} : ∀ (k : Nat), (∀ j, j < k → T j < N ∧ T j = T' j ∧ D (T j) = D' (T j) ∧ ∀ r, D (T j) = some r → r < N) → ∀ (f g : Nat → Int32), (∀ p, p < N → f p = g p) → ∀ p, p < N → wf_acc T D k f p = wf_acc T' D' k g p := by
  intro k
  induction k with
  | zero => intro _ f g h p hp; exact h p hp
  | succ k ih =>
    intro h f g hfg p hp
    obtain ⟨h1, h2, h3, h4⟩ := h k (by omega)
    simp only [wf_acc]
    rw [← h2, ← h3]
    refine ih (fun j hj => h j (by omega)) _ _ (fun p hp => ?_) p hp
    cases hd : D (T k) with
    | none => exact hfg p hp
    | some r =>
      have hr := h4 r hd
      by_cases z : p = r
      · subst z; simp only [upd_i, hfg p hp, hfg (T k) h1]
      · simp only [upd_o z, hfg p hp]
def wk_ (ht sea lv fl st : Int32) : Int32 := if ht < sea then 1 else if ht < lv then 2 else if st ≤ fl then 4 else 8
theorem wt_low_least {n k p r : Nat} {T lv od : Nat → Nat} (a : wt_low n T lv od k p r) : wl_least n (wt_tk T k) lv p (lv r) := by
  obtain ⟨a1, a2, a3⟩ := a
  refine ⟨⟨r, a1, a2, rfl⟩, fun r' ha hs => ?_⟩
  obtain ⟨e, e4, ea⟩ := ha
  have := a3 e r' e4 ea hs
  omega
section WREST
variable {X : sw_X} {σ : sw_Sg} {x y v w : Int32} {n p q K c l o m sea : Nat} {h T lv od O : Nat → Nat} {D : Nat → Option Nat} {r : Option Nat}
theorem C_X6_takeOthers (hI : ww_I n h sea K c T lv od D O σ) (hc : c ≤ 4 * K) (hall : ∀ q, q < n * n → wt_out n h sea q = true → wt_tk T K q) :
    sw_Mv X 3 mX6_takeOthers [.ref (sw_ad X 2), .ref (sw_ad X 1), .ref (sw_ad X 6)] σ (fun u => fr_ [2, 6, 41, 42, 44, 45, 46, 47, 58] σ u ∧ ∃ c T lv od D O, ww_I n h sea (n * n) c T lv od D O u) := by
  have n24 : n ≤ 24 := hI.1.1.2.1
  have h576 := gr_576 n24
  refine sw_ME.ofF (by decide +kernel) rfl (Nat.le_of_ble_eq_true rfl) rfl ?_
  have loop : ∀ (k i : Nat), i + k = 2308 → ∀ (A B : Value) (τ : sw_Sg) (K c : Nat) (T lv od : Nat → Nat) (D : Nat → Option Nat) (O : Nat → Nat), fr_ [2, 6, 41, 42, 44, 45, 46, 47, 58] σ τ → ww_I n h sea K c T lv od D O τ → c + i ≤ 4 * K → (∀ q, q < n * n → wt_out n h sea q = true → wt_tk T K q) →
      SW X 3 mX6_takeOthers sw_E0 (sw_Rv (fun u => fr_ [2, 6, 41, 42, 44, 45, 46, 47, 58] σ u ∧ ∃ c T lv od D O, ww_I n h sea (n * n) c T lv od D O u)) 2 [.ref (sw_ad X 2), .ref (sw_ad X 1), .ref (sw_ad X 6), .int (nI i), A, B] [] τ := by
    intro k
    induction k with
    | zero =>
      intro i hik A B τ K c T lv od D O hf hI hc hall
      have h1 : K ≤ n * n := inj_le (fun i hi => (hI.2.1.1 i hi).1) (fun _ _ hi hj e => wt_inj hI.2.1.1 hi hj e)
      omega
    | succ k ih =>
      intro i hik A B τ K c T lv od D O hf hI hc hall
      have hI0 := hI
      obtain ⟨hG1, hok, hR1, hH1, hO1⟩ := hI
      have h1 : K ≤ n * n := inj_le (fun i hi => (hok.1 i hi).1) (fun _ _ hi hj e => wt_inj hok.1 hi hj e)
      have hH0 := hH1
      obtain ⟨g1, g2, g3, g4⟩ := hH1
      by_cases hc0 : c = 0
      · subst hc0
        refine SW.iload_n (q := 3) (i := 3) dX6_takeOthers_2 rfl rfl rfl ?_
        refine SW.sipush (q := 6) (v := 2308) dX6_takeOthers_3 (by decide) rfl ?_
        refine SW.icmp_ge (q := 9) (tgt := 101) dX6_takeOthers_6 (by decide) rfl (fun c6 => absurd c6 ((nI_ge (a := i) (b := 2308) (by omega) (by omega)))) (fun _ => ?_)
        refine SW.aload_n (q := 10) (i := 2) dX6_takeOthers_9 rfl rfl rfl ?_
        refine SW.cR (q := 13) (C_X0_remove (c := 0) g1 (by omega) g2) vX6_93 (by decide) rfl rfl rfl rfl (Nat.le_of_ble_eq_true rfl) dX6_takeOthers_10 rfl (fun v10 u10 r10 => ?_)
        rcases r10 with ⟨-, rfl, rfl⟩ | ⟨z, -⟩
        rotate_left
        · exact absurd z (Nat.lt_irrefl _)
        refine SW.if_eq (q := 16) (tgt := 101) dX6_takeOthers_13 (by decide) rfl (fun _ => ?_) (fun c13 => absurd (rfl) c13)
        refine SW.vretR rfl dX6_takeOthers_101 ?_
        have hK : K = n * n := by
          refine wt_full hok (fun p hp => Classical.byContradiction fun hnt => ?_)
          obtain ⟨p', e, r, a1, a2, a3, a4, a5⟩ := wt_front (tk := wt_tk T K) (gr_lt hp).2.2 (fun q hq hrim => hall q hq (by rw [wt_out, hrim, Bool.or_true])) p hp hnt
          obtain ⟨m, hm⟩ := wl_least_ex (S := wt_tk T K) (lv := lv) ⟨e, a3, a4⟩ a5
          obtain ⟨i, i1, -⟩ := ((g3 p' a1 a2).1 m hm).2
          exact absurd i1 (Nat.not_lt_zero _)
        subst hK
        exact ⟨hf, 0, T, lv, od, D, O, hI0⟩
      · obtain ⟨r, q, q1, q2, q3, q4⟩ := g4 (τ 58 0) ⟨0, by omega, rfl⟩
        have hmin : ∀ z, hp_in (τ 58) c z → (τ 58 0).toInt ≤ z.toInt := by
          rintro z ⟨i, i1, rfl⟩
          exact hp_min g2 i i1
        -- the heap behind the taking out
        have drop : ∀ u, fr_ [6, 58] τ u → u 6 1 = nI (c - 1) → hp_ok (u 58) (c - 1) → (∀ z, hp_in (u 58) (c - 1) z → hp_in (τ 58) c z) → (∀ z, hp_in (τ 58) c z → z = τ 58 0 ∨ hp_in (u 58) (c - 1) z) → ∀ U : Nat → Prop, (∀ p, U p → ¬ wt_tk T K p) → ¬ U q → ww_H n h (fun _ r => wt_tk T K r) U lv (c - 1) u := by
          intro u f1 u1 u2 u3 u4 U hU hq
          refine ⟨u1, u2, fun p hp hu => ?_, fun z hz => ?_⟩
          · rw [f1 47 (by decide)]
            refine ⟨fun m hm => ?_, (g3 p hp (hU p hu)).2⟩
            have a := (g3 p hp (hU p hu)).1 m hm
            refine ⟨a.1, (u4 _ a.2).resolve_left (fun e => ?_)⟩
            have m400 : m ≤ 400 := by
              obtain ⟨⟨r', ⟨e', e4, ea⟩, b2, b3⟩, -⟩ := hm
              rw [← b3]; exact (hR1.2.2.1 r' (gr_nb_lt hp ea).1 b2).2.2.2.1
            have hh := (hG1.2 p hp).2
            have hmx : wt_mx m (h p) ≤ 400 := by unfold wt_mx; split <;> omega
            rw [q3] at e
            obtain ⟨-, e2⟩ := wl_key_inj (by omega) (by omega) (by omega) (by omega) e
            exact hq (e2 ▸ hu)
          · obtain ⟨r', p, a1, a2, a3, a4⟩ := g4 z (u3 z hz)
            exact ⟨r', p, a1, a2, a3, fun hu => a4 (hU p hu)⟩
        by_cases ht : wt_tk T K q
        · have t45 := hR1.2.2.1 q q2 ht
          refine SW.iload_n (q := 3) (i := 3) dX6_takeOthers_2 rfl rfl rfl ?_
          refine SW.sipush (q := 6) (v := 2308) dX6_takeOthers_3 (by decide) rfl ?_
          refine SW.icmp_ge (q := 9) (tgt := 101) dX6_takeOthers_6 (by decide) rfl (fun c6 => absurd c6 ((nI_ge (a := i) (b := 2308) (by omega) (by omega)))) (fun _ => ?_)
          refine SW.aload_n (q := 10) (i := 2) dX6_takeOthers_9 rfl rfl rfl ?_
          refine SW.cR (q := 13) (C_X0_remove (c := c) g1 (by omega) g2) vX6_93 (by decide) rfl rfl rfl rfl (Nat.le_of_ble_eq_true rfl) dX6_takeOthers_10 rfl (fun v10 u10 r10 => ?_)
          rcases r10 with ⟨z, -⟩ | ⟨z, rfl, f1, u1, u0, u2, u3, u4⟩
          · exact absurd z hc0
          refine SW.if_eq (q := 16) (tgt := 101) dX6_takeOthers_13 (by decide) rfl (fun c13 => absurd c13 ((by decide))) (fun _ => ?_)
          refine SW.aload_n (q := 17) (i := 2) dX6_takeOthers_16 rfl rfl rfl ?_
          refine SW.cF (q := 20) (C_X0_removedPlace) vX6_97 (by decide) rfl rfl rfl rfl (Nat.le_of_ble_eq_true rfl) dX6_takeOthers_17 rfl ?_
          rw [u0, q3, wl_key_q (by omega) (by omega)]
          refine SW.istore (q := 22) (i := 4) dX6_takeOthers_20 (by decide) rfl ?_
          refine SW.aload_n (q := 23) (i := 0) dX6_takeOthers_22 rfl rfl rfl ?_
          refine SW.getR (q := 26) (i := 2) (j := 19) fX6_29 rfl rfl dX6_takeOthers_23 rfl ?_
          refine SW.iload (q := 28) (i := 4) dX6_takeOthers_26 rfl rfl ?_
          refine SW.cF (q := 31) (C_X3_atn (i := 19) (j := 45) (n := 576) rfl rfl (k := q) rfl (by omega)) vX6_74 (by decide) rfl rfl rfl rfl (Nat.le_of_ble_eq_true rfl) dX6_takeOthers_28 rfl ?_
          refine SW.bipush (q := 33) (v := (-6)) dX6_takeOthers_31 (by decide) rfl ?_
          refine SW.icmp_ne (q := 36) (tgt := 95) dX6_takeOthers_33 (by decide) rfl (fun _ => ?_) (fun c33 => absurd c33 ((by rw [f1 45 (by decide), t45.1]; exact nI_n6 (by omega))))
          refine SW.iinc (q := 98) (v := _ + 1) dX6_takeOthers_95 rfl rfl (by decide) rfl ?_
          refine SW.goto (q := 2) dX6_takeOthers_98 (by decide) ?_
          refine SW.eq (by rw [nI_1]; rfl) rfl rfl (ih (i + 1) (by omega) _ _ u10 K (c - 1) T lv od D O (fr_tr hf f1 (by decide)) ⟨hG1.fr f1 (by decide) (by decide) (by decide) (by decide), hok, ?_, drop u10 f1 u1 u2 u3 u4 _ (fun _ z => z) (fun z => z ht), hO1⟩ (by omega) hall)
          unfold ww_R
          rw [f1 2 (by decide), f1 46 (by decide), f1 45 (by decide), f1 41 (by decide), f1 42 (by decide), f1 44 (by decide)]
          exact hR1
        · have t45 := hR1.2.2.2 q q2 ht
          obtain ⟨m, hm, hmr⟩ := q4 ht
          obtain ⟨m47, mkey⟩ := (g3 q q2 ht).1 m hm
          have m400 : m ≤ 400 := by
            obtain ⟨⟨r', ⟨e', e4, ea⟩, b2, b3⟩, -⟩ := hm
            rw [← b3]; exact (hR1.2.2.1 r' (gr_nb_lt q2 ea).1 b2).2.2.2.1
          have hh := (hG1.2 q q2).2
          have hmx : wt_mx m (h q) ≤ 400 := by unfold wt_mx; split <;> omega
          have hr : r = wt_mx m (h q) := by
            have a := hmin _ mkey
            rw [q3] at a
            have := wl_key_le (by omega) (by omega) (by omega) (by omega) a
            omega
          have hKP := wt_K hok q2 ht
          refine SW.iload_n (q := 3) (i := 3) dX6_takeOthers_2 rfl rfl rfl ?_
          refine SW.sipush (q := 6) (v := 2308) dX6_takeOthers_3 (by decide) rfl ?_
          refine SW.icmp_ge (q := 9) (tgt := 101) dX6_takeOthers_6 (by decide) rfl (fun c6 => absurd c6 ((nI_ge (a := i) (b := 2308) (by omega) (by omega)))) (fun _ => ?_)
          refine SW.aload_n (q := 10) (i := 2) dX6_takeOthers_9 rfl rfl rfl ?_
          refine SW.cR (q := 13) (C_X0_remove (c := c) g1 (by omega) g2) vX6_93 (by decide) rfl rfl rfl rfl (Nat.le_of_ble_eq_true rfl) dX6_takeOthers_10 rfl (fun v10 u10 r10 => ?_)
          rcases r10 with ⟨z, -⟩ | ⟨z, rfl, f1, u1, u0, u2, u3, u4⟩
          · exact absurd z hc0
          have hG2 := hG1.fr f1 (by decide) (by decide) (by decide) (by decide)
          have hR2 : ww_R n K T lv od D O u10 := by
            unfold ww_R
            rw [f1 2 (by decide), f1 46 (by decide), f1 45 (by decide), f1 41 (by decide), f1 42 (by decide), f1 44 (by decide)]
            exact hR1
          refine SW.if_eq (q := 16) (tgt := 101) dX6_takeOthers_13 (by decide) rfl (fun c13 => absurd c13 ((by decide))) (fun _ => ?_)
          refine SW.aload_n (q := 17) (i := 2) dX6_takeOthers_16 rfl rfl rfl ?_
          refine SW.cF (q := 20) (C_X0_removedPlace) vX6_97 (by decide) rfl rfl rfl rfl (Nat.le_of_ble_eq_true rfl) dX6_takeOthers_17 rfl ?_
          rw [u0, q3, wl_key_q (by omega) (by omega)]
          refine SW.istore (q := 22) (i := 4) dX6_takeOthers_20 (by decide) rfl ?_
          refine SW.aload_n (q := 23) (i := 0) dX6_takeOthers_22 rfl rfl rfl ?_
          refine SW.getR (q := 26) (i := 2) (j := 19) fX6_29 rfl rfl dX6_takeOthers_23 rfl ?_
          refine SW.iload (q := 28) (i := 4) dX6_takeOthers_26 rfl rfl ?_
          refine SW.cF (q := 31) (C_X3_atn (i := 19) (j := 45) (n := 576) rfl rfl (k := q) rfl (by omega)) vX6_74 (by decide) rfl rfl rfl rfl (Nat.le_of_ble_eq_true rfl) dX6_takeOthers_28 rfl ?_
          refine SW.bipush (q := 33) (v := (-6)) dX6_takeOthers_31 (by decide) rfl ?_
          refine SW.icmp_ne (q := 36) (tgt := 95) dX6_takeOthers_33 (by decide) rfl (fun c33 => absurd ((by rw [f1 45 (by decide)]; exact t45)) c33) (fun _ => ?_)
          refine SW.aload_n (q := 37) (i := 0) dX6_takeOthers_36 rfl rfl rfl ?_
          refine SW.getR (q := 40) (i := 2) (j := 15) fX6_14 rfl rfl dX6_takeOthers_37 rfl ?_
          refine SW.iload (q := 42) (i := 4) dX6_takeOthers_40 rfl rfl ?_
          refine SW.aload_n (q := 43) (i := 2) dX6_takeOthers_42 rfl rfl rfl ?_
          refine SW.cF (q := 46) (C_X0_removedRank) vX6_101 (by decide) rfl rfl rfl rfl (Nat.le_of_ble_eq_true rfl) dX6_takeOthers_43 rfl ?_
          rw [u0, q3, wl_key_r (by omega) (by omega)]
          refine SW.cG (q := 49) (C_X3_putn (i := 15) (j := 41) (n := 576) rfl rfl (k := q) rfl (by omega)) vX6_82 (by decide) rfl rfl rfl rfl (Nat.le_of_ble_eq_true rfl) dX6_takeOthers_46 rfl ?_
          refine SW.aload_n (q := 50) (i := 0) dX6_takeOthers_49 rfl rfl rfl ?_
          refine SW.aload_n (q := 51) (i := 1) dX6_takeOthers_50 rfl rfl rfl ?_
          refine SW.iload (q := 53) (i := 4) dX6_takeOthers_51 rfl rfl ?_
          refine SW.cR (q := 56) (C_X6_firstTakenBeside (h := h) (m := m) (hG2.fr (l := [41]) (fr_up fr_rf (by decide)) (by decide) (by decide) (by decide) (by decide)) (hR2.put ht (by omega)) rfl q2 (by rw [sw_un (by decide), f1 47 (by decide)]; exact m47) hm) vX6_104 (by decide) rfl rfl rfl rfl (Nat.le_of_ble_eq_true rfl) dX6_takeOthers_53 rfl (fun v53 u53 r53 => ?_)
          obtain ⟨r0, rfl, b1, b2, b3, rfl⟩ := r53
          obtain ⟨_, _, _, _, _, o44⟩ := hR2.2.2.1 r0 b1 b2.2.1
          refine SW.istore (q := 58) (i := 5) dX6_takeOthers_56 (by decide) rfl ?_
          refine SW.aload_n (q := 59) (i := 0) dX6_takeOthers_58 rfl rfl rfl ?_
          refine SW.getR (q := 62) (i := 2) (j := 16) fX6_20 rfl rfl dX6_takeOthers_59 rfl ?_
          refine SW.iload (q := 64) (i := 4) dX6_takeOthers_62 rfl rfl ?_
          refine SW.iload (q := 66) (i := 5) dX6_takeOthers_64 rfl rfl ?_
          refine SW.cG (q := 69) (C_X3_putn (i := 16) (j := 42) (n := 576) rfl rfl (k := q) rfl (by omega)) vX6_82 (by decide) rfl rfl rfl rfl (Nat.le_of_ble_eq_true rfl) dX6_takeOthers_66 rfl ?_
          refine SW.aload_n (q := 70) (i := 0) dX6_takeOthers_69 rfl rfl rfl ?_
          refine SW.getR (q := 73) (i := 2) (j := 18) fX6_26 rfl rfl dX6_takeOthers_70 rfl ?_
          refine SW.iload (q := 75) (i := 4) dX6_takeOthers_73 rfl rfl ?_
          refine SW.aload_n (q := 76) (i := 0) dX6_takeOthers_75 rfl rfl rfl ?_
          refine SW.getR (q := 79) (i := 2) (j := 18) fX6_26 rfl rfl dX6_takeOthers_76 rfl ?_
          refine SW.iload (q := 81) (i := 5) dX6_takeOthers_79 rfl rfl ?_
          refine SW.cF (q := 84) (C_X3_atn (i := 18) (j := 44) (n := 576) rfl rfl (k := r0) rfl (by omega)) vX6_74 (by decide) rfl rfl rfl rfl (Nat.le_of_ble_eq_true rfl) dX6_takeOthers_81 rfl ?_
          rw [sw_un (show 44 ≠ 42 by decide), sw_un (show 44 ≠ 41 by decide), o44]
          refine SW.cG (q := 87) (C_X3_putn (i := 18) (j := 44) (n := 576) rfl rfl (k := q) rfl (by omega)) vX6_82 (by decide) rfl rfl rfl rfl (Nat.le_of_ble_eq_true rfl) dX6_takeOthers_84 rfl ?_
          refine SW.aload_n (q := 88) (i := 0) dX6_takeOthers_87 rfl rfl rfl ?_
          refine SW.aload_n (q := 89) (i := 1) dX6_takeOthers_88 rfl rfl rfl ?_
          refine SW.aload_n (q := 90) (i := 2) dX6_takeOthers_89 rfl rfl rfl ?_
          refine SW.iload (q := 92) (i := 4) dX6_takeOthers_90 rfl rfl ?_
          refine SW.cV (q := 95) (C_X6_take (h := h) (T := T) (lv := lv) (od := od) (D := D) (O := O) (r := some r0) (o := O r0) (l := r) (c := c - 1) (K := K) (hG2.fr (l := [41, 42, 44]) (fr_up (fr_up (fr_up fr_rf (by decide)) (by decide)) (by decide)) (by decide) (by decide) (by decide) (by decide)) (((hR2.put ht (by omega)).put ht (by omega)).put ht (by omega)) rfl q2 ht (by omega) (by rw [sw_un (by decide), sw_un (by decide), sw_i1]) (by omega) (by rw [sw_un (by decide), sw_i1]; rfl) (by rw [sw_i1]) ((((drop u10 f1 u1 u2 u3 u4 (fun p' => ¬ wt_tk T K p' ∧ p' ≠ q) (fun _ z => z.1) (fun z => z.2 rfl)).un (by decide) (by decide) (by decide)).un (by decide) (by decide) (by decide)).un (by decide) (by decide) (by decide)) (by omega)) vX6_90 (by decide) rfl rfl rfl rfl (Nat.le_of_ble_eq_true rfl) dX6_takeOthers_92 rfl (fun u92 r92 => ?_)
          obtain ⟨s1, s2, c', s3, s4⟩ := r92
          have f5 : fr_ [2, 6, 41, 42, 44, 45, 46, 47, 58] σ u92 := fr_tr (fr_up (fr_up (fr_up (fr_tr hf f1 (by decide)) (by decide)) (by decide)) (by decide)) s1 (by decide)
          refine SW.iinc (q := 98) (v := _ + 1) dX6_takeOthers_95 rfl rfl (by decide) rfl ?_
          refine SW.goto (q := 2) dX6_takeOthers_98 (by decide) ?_
          refine SW.eq (by rw [nI_1]; rfl) rfl rfl (ih (i + 1) (by omega) _ _ u92 (K + 1) c' _ _ _ _ _ f5 ⟨hI.1.fr f5 (by decide) (by decide) (by decide) (by decide), wt_snoc hok q2 ht (Or.inr ⟨hall, r0, b2, by rw [b3]; exact hr, rfl, fun p' r' p1 p2 p3 => ?_⟩), s2, s4, wo_snoc hO1 q2 ht (hO1 r0 b1 b2.2.1).1 (fun q r _ a b => (wt_D hok a b).1) (Or.inr ⟨r0, rfl, b2.2.1, rfl⟩)⟩ (by omega) (fun q hq ho => wt_tk_snoc.mpr (Or.inl (hall q hq ho))))
          have pl := wt_low_least p3
          have a := hmin _ ((g3 p' p1 p2).1 _ pl).2
          have l4 : lv r' ≤ 400 := by
            obtain ⟨⟨e', e4, ea⟩, b2', -⟩ := p3
            exact (hR1.2.2.1 r' (gr_nb_lt p1 ea).1 b2').2.2.2.1
          have hh' := (hG1.2 p' p1).2
          have hmx' : wt_mx (lv r') (h p') ≤ 400 := by unfold wt_mx; split <;> omega
          rw [q3, hr] at a
          rw [b3]
          exact wl_key_le (by omega) (by omega) (by omega) (by omega) a
  refine SW.iconst (q := 1) (v := 0) dX6_takeOthers_0 (by decide) rfl ?_
  refine SW.istore_n (q := 2) (i := 3) dX6_takeOthers_1 rfl (by decide) rfl ?_
  exact loop 2308 0 rfl _ _ σ K c T lv od D O fr_rf hI (by omega) hall
theorem C_X6_gatherFlow {N : Nat} (h28 : σ 2 8 = nI N) (hN : N ≤ 576) (hT : ∀ j, j < N → σ 46 j = nI (T j) ∧ T j < N ∧ σ 42 (T j) = gr_v (D (T j)) ∧ ∀ r, D (T j) = some r → r < N) :
    sw_Mv X 2 mX6_gatherFlow [.ref (sw_ad X 2), .ref (sw_ad X 1)] σ (fun u => fr_ [43] σ u ∧ ∀ p, p < N → u 43 p = wf_acc T D N (fun _ => 1) p) := by
  refine sw_ME.ofF (by decide +kernel) rfl (Nat.le_of_ble_eq_true rfl) rfl ?_
  have loop : ∀ (k : Nat) (A : Value) (τ : sw_Sg), k ≤ N → fr_ [43] σ τ → (∀ p, p < N → wf_acc T D k (τ 43) p = wf_acc T D N (fun _ => 1) p) →
      SW X 2 mX6_gatherFlow sw_E0 (sw_Rv (fun u => fr_ [43] σ u ∧ ∀ p, p < N → u 43 p = wf_acc T D N (fun _ => 1) p)) 15 [.ref (sw_ad X 2), .ref (sw_ad X 1), .int (nI k - 1), A] [] τ := by
    intro k
    induction k with
    | zero =>
      intro A τ hk hf hI
      refine SW.iload_n (q := 16) (i := 2) dX6_gatherFlow_15 rfl rfl rfl ?_
      refine SW.if_lt (q := 19) (tgt := 70) dX6_gatherFlow_16 (by decide) rfl (fun _ => ?_) (fun c16 => absurd ((by decide)) c16)
      refine SW.vretR rfl dX6_gatherFlow_70 ?_
      exact ⟨hf, hI⟩
    | succ k ih =>
      intro A τ hk hf hI
      obtain ⟨t1, t2, t3, t4⟩ := hT k (by omega)
      refine SW.eq (L' := [.ref (sw_ad X 2), .ref (sw_ad X 1), .int (nI k), A]) (by rw [nI_pred]) rfl rfl ?_
      cases hd : D (T k) with
      | none =>
        refine SW.iload_n (q := 16) (i := 2) dX6_gatherFlow_15 rfl rfl rfl ?_
        refine SW.if_lt (q := 19) (tgt := 70) dX6_gatherFlow_16 (by decide) rfl (fun c16 => absurd c16 ((nI_pos (by omega)))) (fun _ => ?_)
        refine SW.aload_n (q := 20) (i := 0) dX6_gatherFlow_19 rfl rfl rfl ?_
        refine SW.getR (q := 23) (i := 2) (j := 20) fX6_32 rfl rfl dX6_gatherFlow_20 rfl ?_
        refine SW.iload_n (q := 24) (i := 2) dX6_gatherFlow_23 rfl rfl rfl ?_
        refine SW.cF (q := 27) (C_X3_atn (i := 20) (j := 46) (n := 576) rfl rfl (k := k) rfl (by omega)) vX6_74 (by decide) rfl rfl rfl rfl (Nat.le_of_ble_eq_true rfl) dX6_gatherFlow_24 rfl ?_
        rw [hf 46 (by decide), t1]
        refine SW.istore_n (q := 28) (i := 3) dX6_gatherFlow_27 rfl (by decide) rfl ?_
        refine SW.aload_n (q := 29) (i := 0) dX6_gatherFlow_28 rfl rfl rfl ?_
        refine SW.getR (q := 32) (i := 2) (j := 16) fX6_20 rfl rfl dX6_gatherFlow_29 rfl ?_
        refine SW.iload_n (q := 33) (i := 3) dX6_gatherFlow_32 rfl rfl rfl ?_
        refine SW.cF (q := 36) (C_X3_atn (i := 16) (j := 42) (n := 576) rfl rfl (k := T k) rfl (by omega)) vX6_74 (by decide) rfl rfl rfl rfl (Nat.le_of_ble_eq_true rfl) dX6_gatherFlow_33 rfl ?_
        refine SW.bipush (q := 38) (v := (-6)) dX6_gatherFlow_36 (by decide) rfl ?_
        refine SW.icmp_eq (q := 41) (tgt := 64) dX6_gatherFlow_38 (by decide) rfl (fun _ => ?_) (fun c38 => absurd ((by rw [hf 42 (by decide), t3, hd]; rfl)) c38)
        refine SW.iinc (q := 67) (v := _ + (-1)) dX6_gatherFlow_64 rfl rfl (by decide) rfl ?_
        refine SW.goto (q := 15) dX6_gatherFlow_67 (by decide) ?_
        exact SW.eq (by rw [show nI k + (-1) = nI k - 1 from (Int32.sub_eq_add_neg ..).symm]; rfl) rfl rfl (ih _ τ (by omega) hf (fun p hp => by have := hI p hp; simp only [wf_acc, hd] at this; exact this))
      | some r =>
        have hr := t4 r hd
        have e42 : τ 42 (T k) = nI r := by rw [hf 42 (by decide), t3, hd]; rfl
        refine SW.iload_n (q := 16) (i := 2) dX6_gatherFlow_15 rfl rfl rfl ?_
        refine SW.if_lt (q := 19) (tgt := 70) dX6_gatherFlow_16 (by decide) rfl (fun c16 => absurd c16 ((nI_pos (by omega)))) (fun _ => ?_)
        refine SW.aload_n (q := 20) (i := 0) dX6_gatherFlow_19 rfl rfl rfl ?_
        refine SW.getR (q := 23) (i := 2) (j := 20) fX6_32 rfl rfl dX6_gatherFlow_20 rfl ?_
        refine SW.iload_n (q := 24) (i := 2) dX6_gatherFlow_23 rfl rfl rfl ?_
        refine SW.cF (q := 27) (C_X3_atn (i := 20) (j := 46) (n := 576) rfl rfl (k := k) rfl (by omega)) vX6_74 (by decide) rfl rfl rfl rfl (Nat.le_of_ble_eq_true rfl) dX6_gatherFlow_24 rfl ?_
        rw [hf 46 (by decide), t1]
        refine SW.istore_n (q := 28) (i := 3) dX6_gatherFlow_27 rfl (by decide) rfl ?_
        refine SW.aload_n (q := 29) (i := 0) dX6_gatherFlow_28 rfl rfl rfl ?_
        refine SW.getR (q := 32) (i := 2) (j := 16) fX6_20 rfl rfl dX6_gatherFlow_29 rfl ?_
        refine SW.iload_n (q := 33) (i := 3) dX6_gatherFlow_32 rfl rfl rfl ?_
        refine SW.cF (q := 36) (C_X3_atn (i := 16) (j := 42) (n := 576) rfl rfl (k := T k) rfl (by omega)) vX6_74 (by decide) rfl rfl rfl rfl (Nat.le_of_ble_eq_true rfl) dX6_gatherFlow_33 rfl ?_
        refine SW.bipush (q := 38) (v := (-6)) dX6_gatherFlow_36 (by decide) rfl ?_
        refine SW.icmp_eq (q := 41) (tgt := 64) dX6_gatherFlow_38 (by decide) rfl (fun c38 => absurd c38 ((by rw [e42]; exact nI_n6 (by omega)))) (fun _ => ?_)
        refine SW.aload_n (q := 42) (i := 0) dX6_gatherFlow_41 rfl rfl rfl ?_
        refine SW.getR (q := 45) (i := 2) (j := 17) fX6_23 rfl rfl dX6_gatherFlow_42 rfl ?_
        refine SW.aload_n (q := 46) (i := 0) dX6_gatherFlow_45 rfl rfl rfl ?_
        refine SW.getR (q := 49) (i := 2) (j := 16) fX6_20 rfl rfl dX6_gatherFlow_46 rfl ?_
        refine SW.iload_n (q := 50) (i := 3) dX6_gatherFlow_49 rfl rfl rfl ?_
        refine SW.cF (q := 53) (C_X3_atn (i := 16) (j := 42) (n := 576) rfl rfl (k := T k) rfl (by omega)) vX6_74 (by decide) rfl rfl rfl rfl (Nat.le_of_ble_eq_true rfl) dX6_gatherFlow_50 rfl ?_
        refine SW.aload_n (q := 54) (i := 0) dX6_gatherFlow_53 rfl rfl rfl ?_
        refine SW.getR (q := 57) (i := 2) (j := 17) fX6_23 rfl rfl dX6_gatherFlow_54 rfl ?_
        refine SW.iload_n (q := 58) (i := 3) dX6_gatherFlow_57 rfl rfl rfl ?_
        refine SW.cF (q := 61) (C_X3_atn (i := 17) (j := 43) (n := 576) rfl rfl (k := T k) rfl (by omega)) vX6_74 (by decide) rfl rfl rfl rfl (Nat.le_of_ble_eq_true rfl) dX6_gatherFlow_58 rfl ?_
        refine SW.cG (q := 64) (C_X3_addn (i := 17) (j := 43) (n := 576) rfl rfl (k := r) e42 (by omega)) vX6_120 (by decide) rfl rfl rfl rfl (Nat.le_of_ble_eq_true rfl) dX6_gatherFlow_61 rfl ?_
        refine SW.iinc (q := 67) (v := _ + (-1)) dX6_gatherFlow_64 rfl rfl (by decide) rfl ?_
        refine SW.goto (q := 15) dX6_gatherFlow_67 (by decide) ?_
        refine SW.eq (by rw [show nI k + (-1) = nI k - 1 from (Int32.sub_eq_add_neg ..).symm]; rfl) rfl rfl (ih _ _ (by omega) (fr_up hf (by decide)) (fun p hp => ?_))
        have := hI p hp
        simp only [wf_acc, hd] at this
        rw [sw_up_i]
        exact this
  refine SW.aload_n (q := 1) (i := 0) dX6_gatherFlow_0 rfl rfl rfl ?_
  refine SW.getR (q := 4) (i := 2) (j := 17) fX6_23 rfl rfl dX6_gatherFlow_1 rfl ?_
  refine SW.iconst (q := 5) (v := 1) dX6_gatherFlow_4 (by decide) rfl ?_
  refine SW.cG (q := 8) (C_X3_fill (i := 17) (j := 43) (n := 576) rfl rfl) vX6_50 (by decide) rfl rfl rfl rfl (Nat.le_of_ble_eq_true rfl) dX6_gatherFlow_5 rfl ?_
  refine SW.aload_n (q := 9) (i := 0) dX6_gatherFlow_8 rfl rfl rfl ?_
  refine SW.getI (q := 12) (i := 2) fX6_41 rfl rfl dX6_gatherFlow_9 rfl ?_
  refine SW.iconst (q := 13) (v := 1) dX6_gatherFlow_12 (by decide) rfl ?_
  refine SW.isub (q := 14) dX6_gatherFlow_13 rfl ?_
  refine SW.istore_n (q := 15) (i := 2) dX6_gatherFlow_14 rfl (by decide) rfl ?_
  refine SW.eq (by rw [sw_row_o (by decide), h28]; rfl) rfl rfl (loop N _ _ (Nat.le_refl _) (fun i hi => sw_row_o (fun e => hi (by rw [e]; decide))) (fun p hp => ?_))
  refine wf_congr (N := N) N (fun j hj => ⟨(hT j hj).2.1, rfl, rfl, (hT j hj).2.2.2⟩) _ _ (fun p hp => ?_) p hp
  rw [sw_row_i, if_pos (by omega)]
theorem C_X6_kindOf (hx : x = nI p) (hp : p < 576) : sw_F X 1 mX6_kindOf [.ref (sw_ad X 2), .int y, .int x, .int v, .int w] σ (wk_ y v (σ 41 p) (σ 43 p) w) σ := by
  subst hx
  refine sw_ME.ofF (by decide +kernel) rfl (Nat.le_of_ble_eq_true rfl) rfl ?_
  refine SW.iload_n (q := 1) (i := 1) dX6_kindOf_0 rfl rfl rfl ?_
  refine SW.iload_n (q := 2) (i := 3) dX6_kindOf_1 rfl rfl rfl ?_
  refine SW.icmp_ge (q := 5) (tgt := 7) dX6_kindOf_2 (by decide) rfl (fun c2 => ?_) (fun c2 => ?_)
  · refine SW.aload_n (q := 8) (i := 0) dX6_kindOf_7 rfl rfl rfl ?_
    refine SW.getR (q := 11) (i := 2) (j := 15) fX6_14 rfl rfl dX6_kindOf_8 rfl ?_
    refine SW.iload_n (q := 12) (i := 2) dX6_kindOf_11 rfl rfl rfl ?_
    refine SW.cF (q := 15) (C_X3_atn (i := 15) (j := 41) (n := 576) rfl rfl (k := p) rfl (by omega)) vX6_74 (by decide) rfl rfl rfl rfl (Nat.le_of_ble_eq_true rfl) dX6_kindOf_12 rfl ?_
    refine SW.iload_n (q := 16) (i := 1) dX6_kindOf_15 rfl rfl rfl ?_
    refine SW.icmp_le (q := 19) (tgt := 21) dX6_kindOf_16 (by decide) rfl (fun c16 => ?_) (fun c16 => ?_)
    · refine SW.aload_n (q := 22) (i := 0) dX6_kindOf_21 rfl rfl rfl ?_
      refine SW.getR (q := 25) (i := 2) (j := 17) fX6_23 rfl rfl dX6_kindOf_22 rfl ?_
      refine SW.iload_n (q := 26) (i := 2) dX6_kindOf_25 rfl rfl rfl ?_
      refine SW.cF (q := 29) (C_X3_atn (i := 17) (j := 43) (n := 576) rfl rfl (k := p) rfl (by omega)) vX6_74 (by decide) rfl rfl rfl rfl (Nat.le_of_ble_eq_true rfl) dX6_kindOf_26 rfl ?_
      refine SW.iload (q := 31) (i := 4) dX6_kindOf_29 rfl rfl ?_
      refine SW.icmp_lt (q := 34) (tgt := 38) dX6_kindOf_31 (by decide) rfl (fun c31 => ?_) (fun c31 => ?_)
      · refine SW.bipush (q := 40) (v := 8) dX6_kindOf_38 (by decide) rfl ?_
        refine SW.iretR rfl rfl dX6_kindOf_40 ?_
        refine ⟨?_, rfl⟩
        unfold wk_
        first
        | (rw [if_pos (Int32.not_le.mp c2)]; done)
        | (rw [if_neg (Int32.not_lt.mpr c2), if_pos (Int32.not_le.mp c16)]; done)
        | (rw [if_neg (Int32.not_lt.mpr c2), if_neg (Int32.not_lt.mpr c16), if_pos (Int32.not_lt.mp c31)]; done)
        | (rw [if_neg (Int32.not_lt.mpr c2), if_neg (Int32.not_lt.mpr c16), if_neg (Int32.not_le.mpr c31)]; done)
      · refine SW.iconst (q := 35) (v := 4) dX6_kindOf_34 (by decide) rfl ?_
        refine SW.goto (q := 40) dX6_kindOf_35 (by decide) ?_
        refine SW.iretR rfl rfl dX6_kindOf_40 ?_
        refine ⟨?_, rfl⟩
        unfold wk_
        first
        | (rw [if_pos (Int32.not_le.mp c2)]; done)
        | (rw [if_neg (Int32.not_lt.mpr c2), if_pos (Int32.not_le.mp c16)]; done)
        | (rw [if_neg (Int32.not_lt.mpr c2), if_neg (Int32.not_lt.mpr c16), if_pos (Int32.not_lt.mp c31)]; done)
        | (rw [if_neg (Int32.not_lt.mpr c2), if_neg (Int32.not_lt.mpr c16), if_neg (Int32.not_le.mpr c31)]; done)
    · refine SW.iconst (q := 20) (v := 2) dX6_kindOf_19 (by decide) rfl ?_
      refine SW.iretR rfl rfl dX6_kindOf_20 ?_
      refine ⟨?_, rfl⟩
      unfold wk_
      first
      | (rw [if_pos (Int32.not_le.mp c2)]; done)
      | (rw [if_neg (Int32.not_lt.mpr c2), if_pos (Int32.not_le.mp c16)]; done)
      | (rw [if_neg (Int32.not_lt.mpr c2), if_neg (Int32.not_lt.mpr c16), if_pos (Int32.not_lt.mp c31)]; done)
      | (rw [if_neg (Int32.not_lt.mpr c2), if_neg (Int32.not_lt.mpr c16), if_neg (Int32.not_le.mpr c31)]; done)
  · refine SW.iconst (q := 6) (v := 1) dX6_kindOf_5 (by decide) rfl ?_
    refine SW.iretR rfl rfl dX6_kindOf_6 ?_
    refine ⟨?_, rfl⟩
    unfold wk_
    first
    | (rw [if_pos (Int32.not_le.mp c2)]; done)
    | (rw [if_neg (Int32.not_lt.mpr c2), if_pos (Int32.not_le.mp c16)]; done)
    | (rw [if_neg (Int32.not_lt.mpr c2), if_neg (Int32.not_lt.mpr c16), if_pos (Int32.not_lt.mp c31)]; done)
    | (rw [if_neg (Int32.not_lt.mpr c2), if_neg (Int32.not_lt.mpr c16), if_neg (Int32.not_le.mpr c31)]; done)
theorem C_X6_isPassable (hx : x = nI p) (hp : p < 576) : sw_F X 1 mX6_isPassable [.ref (sw_ad X 2), .int x] σ (sw_b (decide (σ 48 p = 4 ∨ σ 48 p = 8))) σ := by
  subst hx
  refine sw_ME.ofF (by decide +kernel) rfl (Nat.le_of_ble_eq_true rfl) rfl ?_
  refine SW.aload_n (q := 1) (i := 0) dX6_isPassable_0 rfl rfl rfl ?_
  refine SW.getR (q := 4) (i := 2) (j := 22) fX6_38 rfl rfl dX6_isPassable_1 rfl ?_
  refine SW.iload_n (q := 5) (i := 1) dX6_isPassable_4 rfl rfl rfl ?_
  refine SW.cF (q := 8) (C_X3_atn (i := 22) (j := 48) (n := 576) rfl rfl (k := p) rfl (by omega)) vX6_74 (by decide) rfl rfl rfl rfl (Nat.le_of_ble_eq_true rfl) dX6_isPassable_5 rfl ?_
  refine SW.iconst (q := 9) (v := 4) dX6_isPassable_8 (by decide) rfl ?_
  refine SW.icmp_eq (q := 12) (tgt := 25) dX6_isPassable_9 (by decide) rfl (fun c9 => ?_) (fun c9 => ?_)
  · refine SW.iconst (q := 26) (v := 1) dX6_isPassable_25 (by decide) rfl ?_
    refine SW.goto (q := 30) dX6_isPassable_26 (by decide) ?_
    refine SW.iretR rfl rfl dX6_isPassable_30 ?_
    refine ⟨?_, rfl⟩
    simp [sw_b, *]
  · refine SW.aload_n (q := 13) (i := 0) dX6_isPassable_12 rfl rfl rfl ?_
    refine SW.getR (q := 16) (i := 2) (j := 22) fX6_38 rfl rfl dX6_isPassable_13 rfl ?_
    refine SW.iload_n (q := 17) (i := 1) dX6_isPassable_16 rfl rfl rfl ?_
    refine SW.cF (q := 20) (C_X3_atn (i := 22) (j := 48) (n := 576) rfl rfl (k := p) rfl (by omega)) vX6_74 (by decide) rfl rfl rfl rfl (Nat.le_of_ble_eq_true rfl) dX6_isPassable_17 rfl ?_
    refine SW.bipush (q := 22) (v := 8) dX6_isPassable_20 (by decide) rfl ?_
    refine SW.icmp_ne (q := 25) (tgt := 29) dX6_isPassable_22 (by decide) rfl (fun c22 => ?_) (fun c22 => ?_)
    · refine SW.iconst (q := 30) (v := 0) dX6_isPassable_29 (by decide) rfl ?_
      refine SW.iretR rfl rfl dX6_isPassable_30 ?_
      refine ⟨?_, rfl⟩
      simp [sw_b, *]
    · refine SW.iconst (q := 26) (v := 1) dX6_isPassable_25 (by decide) rfl ?_
      refine SW.goto (q := 30) dX6_isPassable_26 (by decide) ?_
      refine SW.iretR rfl rfl dX6_isPassable_30 ?_
      refine ⟨?_, rfl⟩
      simp [sw_b, *]
end WREST
