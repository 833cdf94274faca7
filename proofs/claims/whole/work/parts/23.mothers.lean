/-! WATER in the reference, to its end -/
section MOTHERS
variable {X : sw_X} {R : Option Value → sw_Sg → Prop} {σ : sw_Sg} {x y v w st : Int32} {n p q K a b c l o m sea : Nat} {h T lv od O : Nat → Nat} {D : Nat → Option Nat} {r : Option Nat}
theorem mx_e {a b : Nat} (ha : a < 2 ^ 31) (hb : b < 2 ^ 31) : (if nI a ≤ nI b then nI b else nI a) = nI (wt_mx a b) := by
  unfold wt_mx
  by_cases h : a < b
  · rw [if_pos h, if_pos (nI_le (by omega) hb)]
  · rw [if_neg h]
    by_cases e : a = b
    · subst e; rw [if_pos (Int32.le_refl _)]
    · rw [if_neg (nI_ge (by omega) ha)]
theorem mw_others (hM : gr_M σ n) (hh : ∀ p, p < n * n → σ 64 p = nI (h p) ∧ h p ≤ 400)
    (kk : ∀ (A B C E : Value) (u : sw_Sg) (T lv od : Nat → Nat) (D : Nat → Option Nat), fr_ [59, 65, 66, 67, 68] σ u → fs_ [18] σ u → wt_ok n h sea (n * n) T lv od D → mm_R n (n * n) T lv od D u → SW X 3 mX8_layWater sw_E0 R 334 [.ref (sw_ad X 59), A, B, C, E] [] u) :
    ∀ (k K : Nat), K + k = n * n → ∀ (A B C E : Value) (τ : sw_Sg) (T lv od : Nat → Nat) (D : Nat → Option Nat), fr_ [59, 65, 66, 67, 68] σ τ → fs_ [18] σ τ → wt_ok n h sea K T lv od D → mm_R n K T lv od D τ → (∀ q, q < n * n → wt_out n h sea q = true → wt_tk T K q) → SW X 3 mX8_layWater sw_E0 R 225 [.ref (sw_ad X 59), A, B, C, E] [] τ := by
  have n24 : n ≤ 24 := hM.2.1
  have h576 := gr_576 n24
  have n4 := hM.1
  intro k
  induction k with
  | zero =>
    intro K hK A B C E τ T lv od D hf hfs hok hR hall
    obtain rfl : K = n * n := by omega
    have en : τ 59 1 = nI n := by rw [hfs 1 (by decide)]; exact hM.2.2
    refine SW.aload_n (q := 226) (i := 0) dX8_layWater_225 rfl rfl rfl ?_
    refine SW.getI (q := 229) (i := 59) fX8_111 rfl rfl dX8_layWater_226 rfl ?_
    refine SW.aload_n (q := 230) (i := 0) dX8_layWater_229 rfl rfl rfl ?_
    refine SW.getI (q := 233) (i := 59) fX8_7 rfl rfl dX8_layWater_230 rfl ?_
    refine SW.aload_n (q := 234) (i := 0) dX8_layWater_233 rfl rfl rfl ?_
    refine SW.getI (q := 237) (i := 59) fX8_7 rfl rfl dX8_layWater_234 rfl ?_
    refine SW.imul (q := 238) dX8_layWater_237 rfl ?_
    refine SW.icmp_ge (q := 241) (tgt := 334) dX8_layWater_238 (by decide) rfl (fun _ => ?_) (fun c238 => absurd ((by rw [en, pk_mul, hR.1]; exact Int32.le_refl _)) c238)
    exact kk _ _ _ _ τ T lv od D hf hfs hok hR
  | succ k ih =>
    intro K hK A B C E τ T lv od D hf hfs hok hR hall
    have en : τ 59 1 = nI n := by rw [hfs 1 (by decide)]; exact hM.2.2
    have hM2 : gr_M τ n := ⟨hM.1, hM.2.1, en⟩
    have hh2 : ∀ p, p < n * n → τ 64 p = nI (h p) ∧ h p ≤ 400 := fun p hp => by rw [hf 64 (by decide)]; exact hh p hp
    obtain ⟨r1, r2, r3, r4⟩ := hR
    have wat : ∀ p r, p < n * n → r < n * n → wt_tk T K r → (if τ 65 r ≤ τ 64 p then τ 64 p else τ 65 r) = nI (wt_mx (lv r) (h p)) := by
      intro p r hp hr ht
      have a := r3 r hr ht
      have b := hh2 p hp
      rw [a.2.2.1, b.1]
      exact mx_e (by omega) (by omega)
    have lim : ∀ p r, p < n * n → r < n * n → wt_tk T K r → wt_mx (lv r) (h p) ≤ 400 := by
      intro p r hp hr ht
      have a := (r3 r hr ht).2.2.2.1
      have b := (hh2 p hp).2
      unfold wt_mx
      split <;> omega
    have inner : ∀ (k2 p : Nat), p + k2 = n * n → ∀ (bo : Option (Nat × Nat)) (E : Value), (bo = none → ∀ p' r', p' < p → ¬ wt_tk T K p' → ¬ wt_low n T lv od K p' r') → (∀ b r, bo = some (b, r) → b < n * n ∧ r < n * n ∧ ¬ wt_tk T K b ∧ wt_low n T lv od K b r ∧ b < p ∧ ∀ p' r', p' < p → ¬ wt_tk T K p' → wt_low n T lv od K p' r' → wt_mx (lv r) (h b) < wt_mx (lv r') (h p') ∨ wt_mx (lv r) (h b) = wt_mx (lv r') (h p') ∧ b ≤ p') →
        SW X 3 mX8_layWater sw_E0 R 249 [.ref (sw_ad X 59), .int (gr_v (bo.map Prod.fst)), .int (gr_v (bo.map Prod.snd)), .int (nI p), E] [] τ := by
      intro k2
      induction k2 with
      | zero =>
        intro p hp bo E h0 h1
        obtain rfl : p = n * n := by omega
        cases bo with
        | none =>
          exfalso
          by_cases hex : ∃ p, p < n * n ∧ ¬ wt_tk T K p
          · obtain ⟨p, hp, hnt⟩ := hex
            obtain ⟨p', e, r, a1, a2, a3, a4, a5⟩ := wt_front (tk := wt_tk T K) (gr_lt hp).2.2 (fun q hq hrim => hall q hq (by rw [wt_out, hrim, Bool.or_true])) p hp hnt
            -- the lowest one of those taken beside p'
            obtain ⟨m, ⟨r0, b1, b2, b3⟩, hm⟩ := wl_least_ex (S := wt_tk T K) (lv := lv) ⟨e, a3, a4⟩ a5
            obtain ⟨d, ⟨r1', c1, c2, c3, c4⟩, hd⟩ := pk_least (fun d => ∃ r, wl_adj n p' r ∧ wt_tk T K r ∧ lv r = m ∧ od r = d) ⟨od r0, r0, b1, b2, b3, rfl⟩
            refine h0 rfl p' r1' a1 a2 ⟨c1, c2, fun e' r'' e4 ea ht => ?_⟩
            have z1 := hm r'' ⟨e', e4, ea⟩ ht
            by_cases z : lv r'' = m
            · refine Or.inr ⟨by omega, ?_⟩
              rcases Nat.lt_or_ge (od r'') d with z2 | z2
              · exact absurd ⟨r'', ⟨e', e4, ea⟩, ht, z, rfl⟩ (hd _ z2)
              · omega
            · exact Or.inl (by omega)
          · have := wt_full hok (fun p hp => Classical.byContradiction fun hn => hex ⟨p, hp, hn⟩)
            omega
        | some br =>
          obtain ⟨b, r⟩ := br
          obtain ⟨b1, b2, b3, b4, b5, b6⟩ := h1 b r rfl
          have bi : gr_v ((some (b, r)).map Prod.fst) = nI b := rfl
          have ri : gr_v ((some (b, r)).map Prod.snd) = nI r := rfl
          rw [bi, ri]
          refine SW.iload_n (q := 250) (i := 3) dX8_layWater_249 rfl rfl rfl ?_
          refine SW.aload_n (q := 251) (i := 0) dX8_layWater_250 rfl rfl rfl ?_
          refine SW.getI (q := 254) (i := 59) fX8_7 rfl rfl dX8_layWater_251 rfl ?_
          refine SW.aload_n (q := 255) (i := 0) dX8_layWater_254 rfl rfl rfl ?_
          refine SW.getI (q := 258) (i := 59) fX8_7 rfl rfl dX8_layWater_255 rfl ?_
          refine SW.imul (q := 259) dX8_layWater_258 rfl ?_
          refine SW.icmp_ge (q := 262) (tgt := 319) dX8_layWater_259 (by decide) rfl (fun _ => ?_) (fun c259 => absurd ((by rw [en, pk_mul]; exact Int32.le_refl _)) c259)
          refine SW.aload_n (q := 320) (i := 0) dX8_layWater_319 rfl rfl rfl ?_
          refine SW.iload_n (q := 321) (i := 1) dX8_layWater_320 rfl rfl rfl ?_
          refine SW.aload_n (q := 322) (i := 0) dX8_layWater_321 rfl rfl rfl ?_
          refine SW.iload_n (q := 323) (i := 1) dX8_layWater_322 rfl rfl rfl ?_
          refine SW.iload_n (q := 324) (i := 2) dX8_layWater_323 rfl rfl rfl ?_
          refine SW.cF (q := 327) (C_X8_water rfl (by omega) rfl (by omega)) vX8_131 (by decide) rfl rfl rfl rfl (Nat.le_of_ble_eq_true rfl) dX8_layWater_324 rfl ?_
          rw [wat b r b1 b2 b4.2.1]
          refine SW.iload_n (q := 328) (i := 2) dX8_layWater_327 rfl rfl rfl ?_
          refine SW.cG (q := 331) (C_X8_take rfl (by omega) r1 (by omega)) vX8_123 (by decide) rfl rfl rfl rfl (Nat.le_of_ble_eq_true rfl) dX8_layWater_328 rfl ?_
          refine SW.goto (q := 225) dX8_layWater_331 (by decide) ?_
          exact ih (K + 1) (by omega) _ _ _ _ _ _ _ _ _ (fr_up (fr_up (fr_up (fr_up (fr_up hf (by decide)) (by decide)) (by decide)) (by decide)) (by decide)) (fs_ups (fs_up (fs_up (fs_up (fs_up hfs (by decide)) (by decide)) (by decide)) (by decide)) (by decide)) (wt_snoc hok b1 b3 (Or.inr ⟨hall, r, b4, rfl, rfl, fun p' r' p1 => b6 p' r' p1⟩)) (mm_take (r0 := some r) ⟨r1, r2, r3, r4⟩ b1 (by omega) b3 (lim b r b1 b2 b4.2.1)) (fun q hq ho => wt_tk_snoc.mpr (Or.inl (hall q hq ho)))
      | succ k2 ih2 =>
        intro p hpk bo E h0 h1
        have hp : p < n * n := by omega
        have keep : (¬ wt_tk T K p → ∀ r', wt_low n T lv od K p r' → ∃ b r, bo = some (b, r) ∧ wt_mx (lv r) (h b) ≤ wt_mx (lv r') (h p)) → ∀ E', SW X 3 mX8_layWater sw_E0 R 249 [.ref (sw_ad X 59), .int (gr_v (bo.map Prod.fst)), .int (gr_v (bo.map Prod.snd)), .int (nI (p + 1)), E'] [] τ := by
          intro hk E'
          refine ih2 (p + 1) (by omega) bo E' (fun hn p' r' hp' hnt hl => ?_) (fun b r hb => ?_)
          · by_cases z : p' = p
            · subst z
              obtain ⟨b, r, z2, -⟩ := hk hnt r' hl
              rw [hn] at z2; cases z2
            · exact h0 hn p' r' (by omega) hnt hl
          · obtain ⟨b1, b2, b3, b4, b5, b6⟩ := h1 b r hb
            refine ⟨b1, b2, b3, b4, by omega, fun p' r' hp' hnt hl => ?_⟩
            by_cases z : p' = p
            · subst z
              obtain ⟨b', r'', z2, z3⟩ := hk hnt r' hl
              rw [hb] at z2; cases z2
              omega
            · exact b6 p' r' (by omega) hnt hl
        by_cases ht : wt_tk T K p
        · have t := (r3 p hp ht).1
          have t5 := (r3 p hp ht).2.1
          refine SW.iload_n (q := 250) (i := 3) dX8_layWater_249 rfl rfl rfl ?_
          refine SW.aload_n (q := 251) (i := 0) dX8_layWater_250 rfl rfl rfl ?_
          refine SW.getI (q := 254) (i := 59) fX8_7 rfl rfl dX8_layWater_251 rfl ?_
          refine SW.aload_n (q := 255) (i := 0) dX8_layWater_254 rfl rfl rfl ?_
          refine SW.getI (q := 258) (i := 59) fX8_7 rfl rfl dX8_layWater_255 rfl ?_
          refine SW.imul (q := 259) dX8_layWater_258 rfl ?_
          refine SW.icmp_ge (q := 262) (tgt := 319) dX8_layWater_259 (by decide) rfl (fun c259 => absurd c259 ((by rw [en, pk_mul]; exact nI_ge (by omega) (by omega)))) (fun _ => ?_)
          refine SW.aload_n (q := 263) (i := 0) dX8_layWater_262 rfl rfl rfl ?_
          refine SW.getR (q := 266) (i := 59) (j := 67) fX8_35 rfl rfl dX8_layWater_263 rfl ?_
          refine SW.iload_n (q := 267) (i := 3) dX8_layWater_266 rfl rfl rfl ?_
          refine SW.ialdN (q := 268) (k := p) rfl (rfl) (by omega) (by decide) dX8_layWater_267 rfl ?_
          refine SW.if_ge (q := 271) (tgt := 279) dX8_layWater_268 (by decide) rfl (fun _ => ?_) (fun c268 => absurd ((by rw [t]; exact nI_pos' (by omega))) c268)
          refine SW.bipush (q := 281) (v := (-6)) dX8_layWater_279 (by decide) rfl ?_
          refine SW.istore (q := 283) (i := 4) dX8_layWater_281 (by decide) rfl ?_
          refine SW.iload (q := 285) (i := 4) dX8_layWater_283 rfl rfl ?_
          refine SW.if_lt (q := 288) (tgt := 313) dX8_layWater_285 (by decide) rfl (fun _ => ?_) (fun c285 => absurd ((by decide)) c285)
          refine SW.iinc (q := 316) (v := _ + 1) dX8_layWater_313 rfl rfl (by decide) rfl ?_
          refine SW.goto (q := 249) dX8_layWater_316 (by decide) ?_
          exact SW.eq (by rw [nI_1]; rfl) rfl rfl (keep (fun hn => absurd ht hn) _)
        · have t := r4 p hp ht
          cases bo with
          | none =>
            refine SW.iload_n (q := 250) (i := 3) dX8_layWater_249 rfl rfl rfl ?_
            refine SW.aload_n (q := 251) (i := 0) dX8_layWater_250 rfl rfl rfl ?_
            refine SW.getI (q := 254) (i := 59) fX8_7 rfl rfl dX8_layWater_251 rfl ?_
            refine SW.aload_n (q := 255) (i := 0) dX8_layWater_254 rfl rfl rfl ?_
            refine SW.getI (q := 258) (i := 59) fX8_7 rfl rfl dX8_layWater_255 rfl ?_
            refine SW.imul (q := 259) dX8_layWater_258 rfl ?_
            refine SW.icmp_ge (q := 262) (tgt := 319) dX8_layWater_259 (by decide) rfl (fun c259 => absurd c259 ((by rw [en, pk_mul]; exact nI_ge (by omega) (by omega)))) (fun _ => ?_)
            refine SW.aload_n (q := 263) (i := 0) dX8_layWater_262 rfl rfl rfl ?_
            refine SW.getR (q := 266) (i := 59) (j := 67) fX8_35 rfl rfl dX8_layWater_263 rfl ?_
            refine SW.iload_n (q := 267) (i := 3) dX8_layWater_266 rfl rfl rfl ?_
            refine SW.ialdN (q := 268) (k := p) rfl (rfl) (by omega) (by decide) dX8_layWater_267 rfl ?_
            refine SW.if_ge (q := 271) (tgt := 279) dX8_layWater_268 (by decide) rfl (fun c268 => absurd c268 ((by rw [t]; decide))) (fun _ => ?_)
            refine SW.aload_n (q := 272) (i := 0) dX8_layWater_271 rfl rfl rfl ?_
            refine SW.iload_n (q := 273) (i := 3) dX8_layWater_272 rfl rfl rfl ?_
            refine SW.cR (q := 276) (C_X8_lowest hM2 ⟨r1, r2, r3, r4⟩ rfl hp) vX8_127 (by decide) rfl rfl rfl rfl (Nat.le_of_ble_eq_true rfl) dX8_layWater_273 rfl (fun v273 u273 r273 => ?_)
            obtain ⟨rfl, oo, rfl, o1, o2⟩ := r273
            have only : ∀ r', wt_low n T lv od K p r' → oo = some r' := by
              intro r' hl
              cases hoo : oo with
              | none => obtain ⟨⟨e, e4, ea⟩, ht', -⟩ := hl; exact absurd ht' (o1 hoo e r' e4 ea)
              | some r'' => rw [wt_low_one hok.1 (Nat.le_refl _) (o2 r'' hoo).2 hl]
            cases oo with
            | none =>
              refine SW.goto (q := 281) dX8_layWater_276 (by decide) ?_
              refine SW.istore (q := 283) (i := 4) dX8_layWater_281 (by decide) rfl ?_
              refine SW.iload (q := 285) (i := 4) dX8_layWater_283 rfl rfl ?_
              refine SW.if_lt (q := 288) (tgt := 313) dX8_layWater_285 (by decide) rfl (fun _ => ?_) (fun c285 => absurd (by decide) c285)
              refine SW.iinc (q := 316) (v := _ + 1) dX8_layWater_313 rfl rfl (by decide) rfl ?_
              refine SW.goto (q := 249) dX8_layWater_316 (by decide) ?_
              exact SW.eq (by rw [nI_1]; rfl) rfl rfl (keep (fun _ r' hl => by have := only r' hl; cases this) _)
            | some r =>
            have rl := (o2 r rfl).1
            have ri : gr_v (some r) = nI r := rfl
            refine SW.goto (q := 281) dX8_layWater_276 (by decide) ?_
            refine SW.istore (q := 283) (i := 4) dX8_layWater_281 (by decide) rfl ?_
            refine SW.iload (q := 285) (i := 4) dX8_layWater_283 rfl rfl ?_
            refine SW.if_lt (q := 288) (tgt := 313) dX8_layWater_285 (by decide) rfl (fun c285 => absurd c285 ((by rw [ri]; exact nI_pos (by omega)))) (fun _ => ?_)
            refine SW.iload_n (q := 289) (i := 1) dX8_layWater_288 rfl rfl rfl ?_
            refine SW.if_lt (q := 292) (tgt := 308) dX8_layWater_289 (by decide) rfl (fun _ => ?_) (fun c289 => absurd ((by decide)) c289)
            refine SW.iload_n (q := 309) (i := 3) dX8_layWater_308 rfl rfl rfl ?_
            refine SW.istore_n (q := 310) (i := 1) dX8_layWater_309 rfl (by decide) rfl ?_
            refine SW.iload (q := 312) (i := 4) dX8_layWater_310 rfl rfl ?_
            refine SW.istore_n (q := 313) (i := 2) dX8_layWater_312 rfl (by decide) rfl ?_
            refine SW.iinc (q := 316) (v := _ + 1) dX8_layWater_313 rfl rfl (by decide) rfl ?_
            refine SW.goto (q := 249) dX8_layWater_316 (by decide) ?_
            refine SW.eq (by rw [nI_1]; rfl) rfl rfl (ih2 (p + 1) (by omega) (some (p, r)) _ (fun z => by cases z) (fun b' r' hb => ?_))
            cases hb
            refine ⟨hp, rl, ht, (o2 r rfl).2, by omega, fun p' r' hp' hnt hl => ?_⟩
            by_cases z : p' = p
            · subst z
              have := only r' hl
              cases this
              omega
            · exact absurd hl (h0 rfl p' r' (by omega) hnt)
          | some br =>
            obtain ⟨b, r0⟩ := br
            obtain ⟨b1, b2, b3, b4, b5, b6⟩ := h1 b r0 rfl
            have bi : gr_v ((some (b, r0)).map Prod.fst) = nI b := rfl
            have ri0 : gr_v ((some (b, r0)).map Prod.snd) = nI r0 := rfl
            refine SW.iload_n (q := 250) (i := 3) dX8_layWater_249 rfl rfl rfl ?_
            refine SW.aload_n (q := 251) (i := 0) dX8_layWater_250 rfl rfl rfl ?_
            refine SW.getI (q := 254) (i := 59) fX8_7 rfl rfl dX8_layWater_251 rfl ?_
            refine SW.aload_n (q := 255) (i := 0) dX8_layWater_254 rfl rfl rfl ?_
            refine SW.getI (q := 258) (i := 59) fX8_7 rfl rfl dX8_layWater_255 rfl ?_
            refine SW.imul (q := 259) dX8_layWater_258 rfl ?_
            refine SW.icmp_ge (q := 262) (tgt := 319) dX8_layWater_259 (by decide) rfl (fun c259 => absurd c259 ((by rw [en, pk_mul]; exact nI_ge (by omega) (by omega)))) (fun _ => ?_)
            refine SW.aload_n (q := 263) (i := 0) dX8_layWater_262 rfl rfl rfl ?_
            refine SW.getR (q := 266) (i := 59) (j := 67) fX8_35 rfl rfl dX8_layWater_263 rfl ?_
            refine SW.iload_n (q := 267) (i := 3) dX8_layWater_266 rfl rfl rfl ?_
            refine SW.ialdN (q := 268) (k := p) rfl (rfl) (by omega) (by decide) dX8_layWater_267 rfl ?_
            refine SW.if_ge (q := 271) (tgt := 279) dX8_layWater_268 (by decide) rfl (fun c268 => absurd c268 ((by rw [t]; decide))) (fun _ => ?_)
            refine SW.aload_n (q := 272) (i := 0) dX8_layWater_271 rfl rfl rfl ?_
            refine SW.iload_n (q := 273) (i := 3) dX8_layWater_272 rfl rfl rfl ?_
            refine SW.cR (q := 276) (C_X8_lowest hM2 ⟨r1, r2, r3, r4⟩ rfl hp) vX8_127 (by decide) rfl rfl rfl rfl (Nat.le_of_ble_eq_true rfl) dX8_layWater_273 rfl (fun v273 u273 r273 => ?_)
            obtain ⟨rfl, oo, rfl, o1, o2⟩ := r273
            have only : ∀ r', wt_low n T lv od K p r' → oo = some r' := by
              intro r' hl
              cases hoo : oo with
              | none => obtain ⟨⟨e, e4, ea⟩, ht', -⟩ := hl; exact absurd ht' (o1 hoo e r' e4 ea)
              | some r'' => rw [wt_low_one hok.1 (Nat.le_refl _) (o2 r'' hoo).2 hl]
            cases oo with
            | none =>
              refine SW.goto (q := 281) dX8_layWater_276 (by decide) ?_
              refine SW.istore (q := 283) (i := 4) dX8_layWater_281 (by decide) rfl ?_
              refine SW.iload (q := 285) (i := 4) dX8_layWater_283 rfl rfl ?_
              refine SW.if_lt (q := 288) (tgt := 313) dX8_layWater_285 (by decide) rfl (fun _ => ?_) (fun c285 => absurd (by decide) c285)
              refine SW.iinc (q := 316) (v := _ + 1) dX8_layWater_313 rfl rfl (by decide) rfl ?_
              refine SW.goto (q := 249) dX8_layWater_316 (by decide) ?_
              exact SW.eq (by rw [nI_1]; rfl) rfl rfl (keep (fun _ r' hl => by have := only r' hl; cases this) _)
            | some r =>
            have rl := (o2 r rfl).1
            have ri : gr_v (some r) = nI r := rfl
            refine SW.goto (q := 281) dX8_layWater_276 (by decide) ?_
            refine SW.istore (q := 283) (i := 4) dX8_layWater_281 (by decide) rfl ?_
            refine SW.iload (q := 285) (i := 4) dX8_layWater_283 rfl rfl ?_
            refine SW.if_lt (q := 288) (tgt := 313) dX8_layWater_285 (by decide) rfl (fun c285 => absurd c285 ((by rw [ri]; exact nI_pos (by omega)))) (fun _ => ?_)
            refine SW.iload_n (q := 289) (i := 1) dX8_layWater_288 rfl rfl rfl ?_
            refine SW.if_lt (q := 292) (tgt := 308) dX8_layWater_289 (by decide) rfl (fun c289 => absurd c289 ((by rw [bi]; exact nI_pos (by omega)))) (fun _ => ?_)
            refine SW.aload_n (q := 293) (i := 0) dX8_layWater_292 rfl rfl rfl ?_
            refine SW.iload_n (q := 294) (i := 3) dX8_layWater_293 rfl rfl rfl ?_
            refine SW.iload (q := 296) (i := 4) dX8_layWater_294 rfl rfl ?_
            refine SW.cF (q := 299) (C_X8_water rfl (by omega) ri (by omega)) vX8_131 (by decide) rfl rfl rfl rfl (Nat.le_of_ble_eq_true rfl) dX8_layWater_296 rfl ?_
            refine SW.aload_n (q := 300) (i := 0) dX8_layWater_299 rfl rfl rfl ?_
            refine SW.iload_n (q := 301) (i := 1) dX8_layWater_300 rfl rfl rfl ?_
            refine SW.iload_n (q := 302) (i := 2) dX8_layWater_301 rfl rfl rfl ?_
            refine SW.cF (q := 305) (C_X8_water bi (by omega) ri0 (by omega)) vX8_131 (by decide) rfl rfl rfl rfl (Nat.le_of_ble_eq_true rfl) dX8_layWater_302 rfl ?_
            rw [wat p r hp rl (o2 r rfl).2.2.1, wat b r0 b1 b2 b4.2.1]
            have m1 := lim p r hp rl (o2 r rfl).2.2.1
            have m2 := lim b r0 b1 b2 b4.2.1
            refine SW.icmp_ge (q := 308) (tgt := 313) dX8_layWater_305 (by decide) rfl (fun c305 => ?_) (fun c305 => ?_)
            · refine SW.iinc (q := 316) (v := _ + 1) dX8_layWater_313 rfl rfl (by decide) rfl ?_
              refine SW.goto (q := 249) dX8_layWater_316 (by decide) ?_
              first
              | exact SW.eq (by rw [nI_1]; rfl) rfl rfl (keep (fun _ r' hl => by
                  have e := only r' hl
                  cases e
                  rw [nI_leI (by omega) (by omega)] at c305
                  exact ⟨b, r0, rfl, c305⟩) _)
              | refine SW.eq (by rw [nI_1]; rfl) rfl rfl (ih2 (p + 1) (by omega) (some (p, r)) _ (fun z => by cases z) (fun b' r' hb => ?_))
                cases hb
                rw [nI_leI (by omega) (by omega)] at c305
                refine ⟨hp, rl, ht, (o2 r rfl).2, by omega, fun p' r' hp' hnt hl => ?_⟩
                by_cases z : p' = p
                · subst z
                  have e := only r' hl
                  cases e
                  omega
                · have := b6 p' r' (by omega) hnt hl
                  omega
            · refine SW.iload_n (q := 309) (i := 3) dX8_layWater_308 rfl rfl rfl ?_
              refine SW.istore_n (q := 310) (i := 1) dX8_layWater_309 rfl (by decide) rfl ?_
              refine SW.iload (q := 312) (i := 4) dX8_layWater_310 rfl rfl ?_
              refine SW.istore_n (q := 313) (i := 2) dX8_layWater_312 rfl (by decide) rfl ?_
              refine SW.iinc (q := 316) (v := _ + 1) dX8_layWater_313 rfl rfl (by decide) rfl ?_
              refine SW.goto (q := 249) dX8_layWater_316 (by decide) ?_
              first
              | exact SW.eq (by rw [nI_1]; rfl) rfl rfl (keep (fun _ r' hl => by
                  have e := only r' hl
                  cases e
                  rw [nI_leI (by omega) (by omega)] at c305
                  exact ⟨b, r0, rfl, c305⟩) _)
              | refine SW.eq (by rw [nI_1]; rfl) rfl rfl (ih2 (p + 1) (by omega) (some (p, r)) _ (fun z => by cases z) (fun b' r' hb => ?_))
                cases hb
                rw [nI_leI (by omega) (by omega)] at c305
                refine ⟨hp, rl, ht, (o2 r rfl).2, by omega, fun p' r' hp' hnt hl => ?_⟩
                by_cases z : p' = p
                · subst z
                  have e := only r' hl
                  cases e
                  omega
                · have := b6 p' r' (by omega) hnt hl
                  omega
    refine SW.aload_n (q := 226) (i := 0) dX8_layWater_225 rfl rfl rfl ?_
    refine SW.getI (q := 229) (i := 59) fX8_111 rfl rfl dX8_layWater_226 rfl ?_
    refine SW.aload_n (q := 230) (i := 0) dX8_layWater_229 rfl rfl rfl ?_
    refine SW.getI (q := 233) (i := 59) fX8_7 rfl rfl dX8_layWater_230 rfl ?_
    refine SW.aload_n (q := 234) (i := 0) dX8_layWater_233 rfl rfl rfl ?_
    refine SW.getI (q := 237) (i := 59) fX8_7 rfl rfl dX8_layWater_234 rfl ?_
    refine SW.imul (q := 238) dX8_layWater_237 rfl ?_
    refine SW.icmp_ge (q := 241) (tgt := 334) dX8_layWater_238 (by decide) rfl (fun c238 => absurd c238 ((by rw [en, pk_mul, r1]; exact nI_ge (by omega) (by omega)))) (fun _ => ?_)
    refine SW.bipush (q := 243) (v := (-6)) dX8_layWater_241 (by decide) rfl ?_
    refine SW.istore_n (q := 244) (i := 1) dX8_layWater_243 rfl (by decide) rfl ?_
    refine SW.bipush (q := 246) (v := (-6)) dX8_layWater_244 (by decide) rfl ?_
    refine SW.istore_n (q := 247) (i := 2) dX8_layWater_246 rfl (by decide) rfl ?_
    refine SW.iconst (q := 248) (v := 0) dX8_layWater_247 (by decide) rfl ?_
    refine SW.istore_n (q := 249) (i := 3) dX8_layWater_248 rfl (by decide) rfl ?_
    exact inner (n * n) 0 (by omega) none _ (fun _ p' r' hp' => absurd hp' (Nat.not_lt_zero _)) (fun b r hb => by cases hb)
end MOTHERS
