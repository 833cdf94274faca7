/-! THE NET in the reference, whole -/
section MNET2
variable {X : sw_X} {σ τ : sw_Sg} {x y v w st s : Int32} {n p q br m a b c : Nat} {h : Nat → Nat} {kd : Nat → Int32} {d : Nat → Option Nat} {D : Nat → Nat → Option Nat} {pl : Nat → Nat} {T : nj_T} {M : Nat → Prop}
theorem C_X8_layNet (hG : rk_G n h kd br σ) (hP : mp_ n m kd pl σ) (hD : ∀ t, t < m → nt_ok n h kd br (pl t) (D t)) :
    sw_Mv X 3 mX8_layNet [.ref (sw_ad X 59)] σ (fun u => fr_ [59, 72, 73, 74, 75, 76] σ u ∧ fs_ [21, 22, 23] σ u ∧ ∃ T, nk_N n h kd br m pl D T ∧ mc_T n h kd br D pl m T u) := by
  have n24 : n ≤ 24 := hG.1.2.1
  have n4 := hG.1.1
  have h16 : 4 * 4 ≤ n * n := Nat.mul_le_mul n4 n4
  have h576 := gr_576 n24
  have en : σ 59 1 = nI n := hG.1.2.2
  have m6 : m ≤ 6 := hP.2.1
  have hbd : ∀ v t c, t < m → D t v = some c → c ≤ 300000 := fun v t c ht e => nt_bd n24 (hD t ht) v c e
  refine sw_ME.ofF (by decide +kernel) rfl (Nat.le_of_ble_eq_true rfl) rfl ?_
  have scan : ∀ (T : nj_T) (s : Int32) (τ : sw_Sg), nb_ m s (nj_M T) → nj_R D pl m T.k T → fr_ [59, 72, 73, 74, 75, 76] σ τ → fs_ [21, 22, 23] σ τ → mc_T n h kd br D pl m T τ →
      (∀ (T' : nj_T) (s' : Int32) (τ' : sw_Sg), T'.k = T.k + 1 → nb_ m s' (nj_M T') → nj_R D pl m T'.k T' → fr_ [59, 72, 73, 74, 75, 76] σ τ' → fs_ [21, 22, 23] σ τ' → mc_T n h kd br D pl m T' τ' → ∀ A B C D' E F G, SW X 3 mX8_layNet sw_E0 (sw_Rv (fun u => fr_ [59, 72, 73, 74, 75, 76] σ u ∧ fs_ [21, 22, 23] σ u ∧ ∃ T, nk_N n h kd br m pl D T ∧ mc_T n h kd br D pl m T u)) 61 [.ref (sw_ad X 59), .int s', .int 1, A, B, C, D', E, F, G] [] τ') →
      ∀ A B C D' E F G, SW X 3 mX8_layNet sw_E0 (sw_Rv (fun u => fr_ [59, 72, 73, 74, 75, 76] σ u ∧ fs_ [21, 22, 23] σ u ∧ ∃ T, nk_N n h kd br m pl D T ∧ mc_T n h kd br D pl m T u)) 61 [.ref (sw_ad X 59), .int s, .int 1, A, B, C, D', E, F, G] [] τ := by
    intro T s τ0 hS hR hf0 hfs0 hT0 next
    have hI := nj_R_I _ T hR
    have hIk := hI.k
    have bl : ∀ (k b : Nat), b + k = m → ∀ (r : Option (Nat × Nat × Nat)) (τ : sw_Sg), nj_B D pl m (nj_M T) (fun _ y => y < b) r → fr_ [59, 72, 73, 74, 75, 76] σ τ → fs_ [21, 22, 23] σ τ → mc_T n h kd br D pl m T τ → ∀ E F G,
        SW X 3 mX8_layNet sw_E0 (sw_Rv (fun u => fr_ [59, 72, 73, 74, 75, 76] σ u ∧ fs_ [21, 22, 23] σ u ∧ ∃ T, nk_N n h kd br m pl D T ∧ mc_T n h kd br D pl m T u)) 78 [.ref (sw_ad X 59), .int s, .int 1, .int (nj_b r), .int (nj_f r), .int (nj_s r), .int (nI b), E, F, G] [] τ := by
      intro k
      induction k with
      | zero =>
        intro b hb r τ hr hf hfs hT E F G
        obtain rfl : b = m := by omega
        have hG2 := hG.fs hf hfs (by decide) (by decide) (by decide) (by decide)
        obtain ⟨pm, -, pp⟩ := hP.fs hf hfs (by decide) (by decide)
        have hr' : nj_B D pl b (nj_M T) (fun _ _ => True) r := nj_ext hr (fun x y _ hy => ⟨fun _ => trivial, fun _ => hy⟩)
        cases r with
        | none =>
          have hfin : nj_R D pl b (b - 1) T := by
            have := nj_R_more hR hr' (b - 1 - T.k)
            rwa [show T.k + (b - 1 - T.k) = b - 1 by omega] at this
          refine SW.iload (q := 80) (i := 6) dX8_layNet_78 rfl rfl ?_
          refine SW.aload_n (q := 81) (i := 0) dX8_layNet_80 rfl rfl rfl ?_
          refine SW.getI (q := 84) (i := 59) fX8_134 rfl rfl dX8_layNet_81 rfl ?_
          refine SW.icmp_ge (q := 87) (tgt := 224) dX8_layNet_84 (by decide) rfl (fun _ => ?_) (fun c84 => absurd ((by rw [pm]; exact Int32.le_refl _)) c84)
          refine SW.iload_n (q := 225) (i := 3) dX8_layNet_224 rfl rfl rfl ?_
          refine SW.if_lt (q := 228) (tgt := 232) dX8_layNet_225 (by decide) rfl (fun _ => ?_) (fun c225 => absurd ((by decide)) c225)
          refine SW.iconst (q := 233) (v := 0) dX8_layNet_232 (by decide) rfl ?_
          refine SW.istore_n (q := 234) (i := 2) dX8_layNet_233 rfl (by decide) rfl ?_
          refine SW.iload_n (q := 235) (i := 2) dX8_layNet_234 rfl rfl rfl ?_
          refine SW.if_eq (q := 238) (tgt := 367) dX8_layNet_235 (by decide) rfl (fun _ => ?_) (fun c235 => absurd (rfl) c235)
          refine SW.goto (q := 61) dX8_layNet_367 (by decide) ?_
          refine SW.iload_n (q := 62) (i := 2) dX8_layNet_61 rfl rfl rfl ?_
          refine SW.if_eq (q := 65) (tgt := 370) dX8_layNet_62 (by decide) rfl (fun _ => ?_) (fun c62 => absurd (rfl) c62)
          refine SW.vretR rfl dX8_layNet_370 ?_
          exact ⟨hf, hfs, T, ⟨hD, hfin⟩, hT⟩
        | some w =>
          obtain ⟨a0, b0, c0⟩ := w
          have bi : nj_b (some (a0, b0, c0)) = nI c0 := rfl
          have fi : nj_f (some (a0, b0, c0)) = nI a0 := rfl
          have si : nj_s (some (a0, b0, c0)) = nI b0 := rfl
          have hI' := (hI.ap hr'.2.1).k
          have hI' : T.k + 1 ≤ b - 1 := hI'
          obtain ⟨c1, c2, c3, c4, c5⟩ := hr'.2.1
          obtain ⟨t1, t2, t3, t4, t5⟩ := hT
          obtain ⟨pa1, pa2, pa3⟩ := pp a0 c1
          obtain ⟨pb1, pb2, pb3⟩ := pp b0 c2
          have cb := hbd _ _ _ c2 c5
          have hR' : nj_R D pl b (T.k + 1) (nj_ap T (some (a0, b0, c0))) := ⟨T, some (a0, b0, c0), hR, hr', rfl⟩
          have J : ∀ τ1, fr_ [59, 72, 73] τ τ1 → fs_ [21, 22, 23] τ τ1 → τ1 59 21 = nI (T.k + 1 + (if 0 < b then 1 else 0)) → τ1 59 22 = nI (T.tot + c0) → τ1 59 23 = nI (T.k + 1) → (∀ i, i < T.k + 1 → τ1 72 i = nI (va_up T.f T.k a0 i) ∧ τ1 73 i = nI (va_up T.g T.k b0 i)) → ∀ Q E F G,
              SW X 3 mX8_layNet sw_E0 (sw_Rv (fun u => fr_ [59, 72, 73, 74, 75, 76] σ u ∧ fs_ [21, 22, 23] σ u ∧ ∃ T, nk_N n h kd br b pl D T ∧ mc_T n h kd br D pl b T u)) 297 [.ref (sw_ad X 59), .int (s ||| ((1 : Int32) <<< (nI b0 &&& 31))), .int 1, .int (nI c0), .int (nI a0), .int (nI b0), Q, E, F, G] [] τ1 := by
            intro τ1 f1 s1 e1 e2 e3 e4 Q E F G
            have hG3 := hG2.fs f1 s1 (by decide) (by decide) (by decide) (by decide)
            have q71 : τ1 71 = τ 71 := f1 71 (by decide)
            refine SW.aload_n (q := 298) (i := 0) dX8_layNet_297 rfl rfl rfl ?_
            refine SW.aload_n (q := 299) (i := 0) dX8_layNet_298 rfl rfl rfl ?_
            refine SW.getR (q := 302) (i := 59) (j := 71) fX8_47 rfl rfl dX8_layNet_299 rfl ?_
            refine SW.iload (q := 304) (i := 5) dX8_layNet_302 rfl rfl ?_
            refine SW.ialdN (q := 305) (k := b0) rfl (rfl) (by omega) (by decide) dX8_layNet_304 rfl ?_
            rw [q71, pb1]
            refine SW.cV (q := 308) (C_X8_reckon (s := pl b0) hG3 rfl pb2) vX8_161 (by decide) rfl rfl rfl rfl (Nat.le_of_ble_eq_true rfl) dX8_layNet_305 rfl (fun u305 r305 => ?_)
            obtain ⟨g1, d, g2, g3⟩ := r305
            obtain rfl : d = D b0 := nt_one g2 (hD b0 c2)
            have u71 : u305 71 = τ 71 := (g1 71 (by decide)).trans q71
            refine SW.aload_n (q := 309) (i := 0) dX8_layNet_308 rfl rfl rfl ?_
            refine SW.getR (q := 312) (i := 59) (j := 74) fX8_56 rfl rfl dX8_layNet_309 rfl ?_
            refine SW.aload_n (q := 313) (i := 0) dX8_layNet_312 rfl rfl rfl ?_
            refine SW.getR (q := 316) (i := 59) (j := 71) fX8_47 rfl rfl dX8_layNet_313 rfl ?_
            refine SW.iload (q := 318) (i := 4) dX8_layNet_316 rfl rfl ?_
            refine SW.ialdN (q := 319) (k := a0) rfl (rfl) (by omega) (by decide) dX8_layNet_318 rfl ?_
            refine SW.dup2 (q := 320) dX8_layNet_319 rfl rfl rfl ?_
            refine SW.ialdN (q := 321) (k := pl a0) rfl ((congrFun u71 a0).trans pa1) (by omega) (by decide) dX8_layNet_320 rfl ?_
            refine SW.iconst (q := 322) (v := 1) dX8_layNet_321 (by decide) rfl ?_
            refine SW.iadd (q := 323) dX8_layNet_322 rfl ?_
            refine SW.iastN (q := 324) (k := pl a0) rfl ((congrFun u71 a0).trans pa1) (by omega) (by decide) dX8_layNet_323 rfl ?_
            refine SW.aload_n (q := 325) (i := 0) dX8_layNet_324 rfl rfl rfl ?_
            refine SW.getR (q := 328) (i := 59) (j := 71) fX8_47 rfl rfl dX8_layNet_325 rfl ?_
            refine SW.iload (q := 330) (i := 4) dX8_layNet_328 rfl rfl ?_
            refine SW.ialdN (q := 331) (k := a0) rfl (rfl) (by omega) (by decide) dX8_layNet_330 rfl ?_
            refine SW.istore (q := 333) (i := 6) dX8_layNet_331 (by decide) rfl ?_
            rw [sw_un (by decide), u71, pa1]
            have f2 : fr_ [74] u305 (sw_up u305 74 (pl a0) (u305 74 (pl a0) + 1)) := fr_up fr_rf (by decide)
            have hp3 : mp_ n b kd pl u305 := (mp_.fs ⟨pm, m6, pp⟩ f1 s1 (by decide) (by decide)).fr g1 (by decide) (by decide)
            have hw := wy_end (n := n) (d := D b0) (N := fun a => nt_nx n h kd br (D b0) a 4) nx_fall nx_lt pa2
            refine mn_road (b := b0) c2 (hD b0 c2) (n * n - 1) (pl a0) (u305 74) _ ((hG3.fr g1 (by decide) (by decide) (by decide) (by decide)).fr f2 (by decide) (by decide) (by decide) (by decide)) (hp3.fr f2 (by decide) (by decide)) (fun v hv => by rw [f2 75 (by decide)]; exact g3 v hv) pa2 ⟨c0, c5⟩ (by rw [show n * n - 1 + 1 = n * n by omega]; exact hw) sw_up_i (fun u hu eu G => ?_)
            have ffr : fr_ [59, 72, 73, 74, 75, 76] σ u := fr_tr (fr_tr (fr_tr (fr_tr hf f1 (by decide)) g1 (by decide)) f2 (by decide)) hu (by decide)
            have f59 : u 59 = τ1 59 := by rw [hu 59 (by decide), f2 59 (by decide), g1 59 (by decide)]
            have f72 : u 72 = τ1 72 := by rw [hu 72 (by decide), f2 72 (by decide), g1 72 (by decide)]
            have f73 : u 73 = τ1 73 := by rw [hu 73 (by decide), f2 73 (by decide), g1 73 (by decide)]
            refine next (nj_ap T (some (a0, b0, c0))) _ u rfl (nb_up hS m6 c2 (fun x => nj_M_ap x)) hR' ffr (fun j hj => by rw [f59, s1 j hj]; exact hfs j hj) ⟨by rw [f59]; exact e1, by rw [f59]; exact e2, by rw [f59]; exact e3, fun i hi => by rw [f72, f73]; exact e4 i hi, fun v hv => ?_⟩ _ _ _ _ _ _ _
            rw [eu, show n * n - 1 + 1 = n * n by omega]
            show _ = nt_ly (fun x => nt_nx n h kd br (D (va_up T.g T.k b0 T.k)) x 4) (n * n) (some (pl (va_up T.f T.k a0 T.k))) (nr_rd n h kd br D pl (nj_ap T (some (a0, b0, c0))) T.k) v
            rw [up_i, up_i, nr_ap T.k (Nat.le_refl _)]
            refine ly_congr (P := n * n) nx_lt (n * n) _ _ _ (fun z e => by cases e; exact pa2) (fun w hw => ?_) v hv
            rw [g1 74 (by decide), f1 74 (by decide)]
            exact t5 w hw
          refine SW.iload (q := 80) (i := 6) dX8_layNet_78 rfl rfl ?_
          refine SW.aload_n (q := 81) (i := 0) dX8_layNet_80 rfl rfl rfl ?_
          refine SW.getI (q := 84) (i := 59) fX8_134 rfl rfl dX8_layNet_81 rfl ?_
          refine SW.icmp_ge (q := 87) (tgt := 224) dX8_layNet_84 (by decide) rfl (fun _ => ?_) (fun c84 => absurd ((by rw [pm]; exact Int32.le_refl _)) c84)
          refine SW.iload_n (q := 225) (i := 3) dX8_layNet_224 rfl rfl rfl ?_
          refine SW.if_lt (q := 228) (tgt := 232) dX8_layNet_225 (by decide) rfl (fun c225 => absurd c225 ((by rw [bi]; exact nI_pos (by omega)))) (fun _ => ?_)
          refine SW.iconst (q := 229) (v := 1) dX8_layNet_228 (by decide) rfl ?_
          refine SW.goto (q := 233) dX8_layNet_229 (by decide) ?_
          refine SW.istore_n (q := 234) (i := 2) dX8_layNet_233 rfl (by decide) rfl ?_
          refine SW.iload_n (q := 235) (i := 2) dX8_layNet_234 rfl rfl rfl ?_
          refine SW.if_eq (q := 238) (tgt := 367) dX8_layNet_235 (by decide) rfl (fun c235 => absurd c235 ((by decide))) (fun _ => ?_)
          refine SW.iload_n (q := 239) (i := 1) dX8_layNet_238 rfl rfl rfl ?_
          refine SW.iconst (q := 240) (v := 1) dX8_layNet_239 (by decide) rfl ?_
          refine SW.iload (q := 242) (i := 5) dX8_layNet_240 rfl rfl ?_
          refine SW.ishl (q := 243) dX8_layNet_242 rfl ?_
          refine SW.ior (q := 244) dX8_layNet_243 rfl ?_
          refine SW.istore_n (q := 245) (i := 1) dX8_layNet_244 rfl (by decide) rfl ?_
          refine SW.aload_n (q := 246) (i := 0) dX8_layNet_245 rfl rfl rfl ?_
          refine SW.dup (q := 247) dX8_layNet_246 rfl rfl ?_
          refine SW.getI (q := 250) (i := 59) fX8_152 rfl rfl dX8_layNet_247 rfl ?_
          refine SW.iconst (q := 251) (v := 1) dX8_layNet_250 (by decide) rfl ?_
          refine SW.iadd (q := 252) dX8_layNet_251 rfl ?_
          refine SW.putI (q := 255) (i := 59) pX8_152 rfl rfl dX8_layNet_252 rfl ?_
          refine SW.aload_n (q := 256) (i := 0) dX8_layNet_255 rfl rfl rfl ?_
          refine SW.dup (q := 257) dX8_layNet_256 rfl rfl ?_
          refine SW.getI (q := 260) (i := 59) fX8_155 rfl rfl dX8_layNet_257 rfl ?_
          refine SW.iload_n (q := 261) (i := 3) dX8_layNet_260 rfl rfl rfl ?_
          refine SW.iadd (q := 262) dX8_layNet_261 rfl ?_
          refine SW.putI (q := 265) (i := 59) pX8_155 rfl rfl dX8_layNet_262 rfl ?_
          refine SW.aload_n (q := 266) (i := 0) dX8_layNet_265 rfl rfl rfl ?_
          refine SW.getR (q := 269) (i := 59) (j := 72) fX8_50 rfl rfl dX8_layNet_266 rfl ?_
          refine SW.aload_n (q := 270) (i := 0) dX8_layNet_269 rfl rfl rfl ?_
          refine SW.getI (q := 273) (i := 59) fX8_158 rfl rfl dX8_layNet_270 rfl ?_
          refine SW.iload (q := 275) (i := 4) dX8_layNet_273 rfl rfl ?_
          refine SW.iastN (q := 276) (k := T.k) rfl ((sw_o1 (by decide)).trans ((sw_o1 (by decide)).trans t3)) (by omega) (by decide) dX8_layNet_275 rfl ?_
          refine SW.aload_n (q := 277) (i := 0) dX8_layNet_276 rfl rfl rfl ?_
          refine SW.getR (q := 280) (i := 59) (j := 73) fX8_53 rfl rfl dX8_layNet_277 rfl ?_
          refine SW.aload_n (q := 281) (i := 0) dX8_layNet_280 rfl rfl rfl ?_
          refine SW.getI (q := 284) (i := 59) fX8_158 rfl rfl dX8_layNet_281 rfl ?_
          refine SW.iload (q := 286) (i := 5) dX8_layNet_284 rfl rfl ?_
          refine SW.iastN (q := 287) (k := T.k) rfl ((congrFun (sw_un (by decide)) 23).trans ((sw_o1 (by decide)).trans ((sw_o1 (by decide)).trans t3))) (by omega) (by decide) dX8_layNet_286 rfl ?_
          refine SW.aload_n (q := 288) (i := 0) dX8_layNet_287 rfl rfl rfl ?_
          refine SW.dup (q := 289) dX8_layNet_288 rfl rfl ?_
          refine SW.getI (q := 292) (i := 59) fX8_158 rfl rfl dX8_layNet_289 rfl ?_
          refine SW.iconst (q := 293) (v := 1) dX8_layNet_292 (by decide) rfl ?_
          refine SW.iadd (q := 294) dX8_layNet_293 rfl ?_
          refine SW.putI (q := 297) (i := 59) pX8_158 rfl rfl dX8_layNet_294 rfl ?_
          refine J _ (fr_up (fr_up (fr_up (fr_up (fr_up fr_rf (by decide)) (by decide)) (by decide)) (by decide)) (by decide)) (fs_ups (fs_up (fs_up (fs_ups (fs_ups fs_rf (by decide)) (by decide)) (by decide)) (by decide)) (by decide)) ?_ ?_ ?_ (fun i hi => ?_) _ _ _ _
          · rw [sw_o1 (by decide), sw_un (by decide), sw_un (by decide), sw_o1 (by decide), sw_i1, t1, nI_1]
            congr 1; omega
          · rw [sw_o1 (by decide), sw_un (by decide), sw_un (by decide), sw_i1, sw_o1 (by decide), t2, bi, nI_add]
          · rw [sw_i1, sw_un (by decide), sw_un (by decide), sw_o1 (by decide), sw_o1 (by decide), t3, nI_1]
          · by_cases z : i = T.k
            · subst z
              rw [up_i, up_i]
              exact ⟨by rw [sw_un (by decide), sw_un (by decide), sw_i1]; rfl, by rw [sw_un (by decide), sw_i1]; rfl⟩
            · rw [up_o z, up_o z]
              exact ⟨by rw [sw_un (by decide), sw_un (by decide), sw_o1 z, sw_un (by decide), sw_un (by decide)]; exact (t4 i (by omega)).1, by rw [sw_un (by decide), sw_o1 z, sw_un (by decide), sw_un (by decide), sw_un (by decide)]; exact (t4 i (by omega)).2⟩
      | succ k ih =>
        intro b hb r τ hr hf hfs hT E F G
        have hG2 := hG.fs hf hfs (by decide) (by decide) (by decide) (by decide)
        have hP2 := hP.fs hf hfs (by decide) (by decide)
        obtain ⟨pm, -, pp⟩ := hP.fs hf hfs (by decide) (by decide)
        have bm : b < m := by omega
        obtain ⟨p1, p2, p3⟩ := pp b bm
        by_cases hM : nj_M T b
        · refine SW.iload (q := 80) (i := 6) dX8_layNet_78 rfl rfl ?_
          refine SW.aload_n (q := 81) (i := 0) dX8_layNet_80 rfl rfl rfl ?_
          refine SW.getI (q := 84) (i := 59) fX8_134 rfl rfl dX8_layNet_81 rfl ?_
          refine SW.icmp_ge (q := 87) (tgt := 224) dX8_layNet_84 (by decide) rfl (fun c84 => absurd c84 ((by rw [pm]; exact nI_ge (by omega) (by omega)))) (fun _ => ?_)
          refine SW.iload_n (q := 88) (i := 1) dX8_layNet_87 rfl rfl rfl ?_
          refine SW.iload (q := 90) (i := 6) dX8_layNet_88 rfl rfl ?_
          refine SW.ishr (q := 91) dX8_layNet_90 rfl ?_
          refine SW.iconst (q := 92) (v := 1) dX8_layNet_91 (by decide) rfl ?_
          refine SW.iand (q := 93) dX8_layNet_92 rfl ?_
          refine SW.if_ne (q := 96) (tgt := 218) dX8_layNet_93 (by decide) rfl (fun _ => ?_) (fun c93 => absurd c93 ((by rw [nb_1 hS m6 bm hM]; decide)))
          refine SW.iinc (q := 221) (v := _ + 1) dX8_layNet_218 rfl rfl (by decide) rfl ?_
          refine SW.goto (q := 78) dX8_layNet_221 (by decide) ?_
          refine SW.eq (by rw [nI_1]; rfl) rfl rfl (ih (b + 1) (by omega) r τ (nj_sub hr (fun x y z => by omega) (fun x y c z hc => ?_)) hf hfs hT _ _ _)
          by_cases e : y = b
          · subst e; exact absurd hM hc.2.2.2.1
          · omega
        · refine SW.iload (q := 80) (i := 6) dX8_layNet_78 rfl rfl ?_
          refine SW.aload_n (q := 81) (i := 0) dX8_layNet_80 rfl rfl rfl ?_
          refine SW.getI (q := 84) (i := 59) fX8_134 rfl rfl dX8_layNet_81 rfl ?_
          refine SW.icmp_ge (q := 87) (tgt := 224) dX8_layNet_84 (by decide) rfl (fun c84 => absurd c84 ((by rw [pm]; exact nI_ge (by omega) (by omega)))) (fun _ => ?_)
          refine SW.iload_n (q := 88) (i := 1) dX8_layNet_87 rfl rfl rfl ?_
          refine SW.iload (q := 90) (i := 6) dX8_layNet_88 rfl rfl ?_
          refine SW.ishr (q := 91) dX8_layNet_90 rfl ?_
          refine SW.iconst (q := 92) (v := 1) dX8_layNet_91 (by decide) rfl ?_
          refine SW.iand (q := 93) dX8_layNet_92 rfl ?_
          refine SW.if_ne (q := 96) (tgt := 218) dX8_layNet_93 (by decide) rfl (fun c93 => absurd ((nb_0 hS m6 bm hM)) c93) (fun _ => ?_)
          refine SW.aload_n (q := 97) (i := 0) dX8_layNet_96 rfl rfl rfl ?_
          refine SW.aload_n (q := 98) (i := 0) dX8_layNet_97 rfl rfl rfl ?_
          refine SW.getR (q := 101) (i := 59) (j := 71) fX8_47 rfl rfl dX8_layNet_98 rfl ?_
          refine SW.iload (q := 103) (i := 6) dX8_layNet_101 rfl rfl ?_
          refine SW.ialdN (q := 104) (k := b) rfl (rfl) (by omega) (by decide) dX8_layNet_103 rfl ?_
          rw [p1]
          refine SW.cV (q := 107) (C_X8_reckon (s := pl b) hG2 rfl p2) vX8_161 (by decide) rfl rfl rfl rfl (Nat.le_of_ble_eq_true rfl) dX8_layNet_104 rfl (fun u104 r104 => ?_)
          obtain ⟨g1, d, g2, g3⟩ := r104
          obtain rfl : d = D b := nt_one g2 (hD b bm)
          refine SW.iconst (q := 108) (v := 0) dX8_layNet_107 (by decide) rfl ?_
          refine SW.istore (q := 110) (i := 7) dX8_layNet_108 (by decide) rfl ?_
          refine mn_inner (M := nj_M T) (hP2.fr g1 (by decide) (by decide)) n24 g3 hbd hS bm hM (fun r hr C1 C2 C3 => ih (b + 1) (by omega) r u104 hr (fr_tr hf g1 (by decide)) (fs_fr hfs g1 (by decide)) (hT.fr g1 (by decide) (by decide) (by decide) (by decide)) C1 C2 C3) m 0 (by omega) r _ _ (nj_ext hr (fun x y _ _ => by omega))
    intro A B C D' E F G
    refine SW.iload_n (q := 62) (i := 2) dX8_layNet_61 rfl rfl rfl ?_
    refine SW.if_eq (q := 65) (tgt := 370) dX8_layNet_62 (by decide) rfl (fun c62 => absurd c62 ((by decide))) (fun _ => ?_)
    refine SW.iconst (q := 66) (v := (-1)) dX8_layNet_65 (by decide) rfl ?_
    refine SW.istore_n (q := 67) (i := 3) dX8_layNet_66 rfl (by decide) rfl ?_
    refine SW.bipush (q := 69) (v := (-6)) dX8_layNet_67 (by decide) rfl ?_
    refine SW.istore (q := 71) (i := 4) dX8_layNet_69 (by decide) rfl ?_
    refine SW.bipush (q := 73) (v := (-6)) dX8_layNet_71 (by decide) rfl ?_
    refine SW.istore (q := 75) (i := 5) dX8_layNet_73 (by decide) rfl ?_
    refine SW.iconst (q := 76) (v := 0) dX8_layNet_75 (by decide) rfl ?_
    refine SW.istore (q := 78) (i := 6) dX8_layNet_76 (by decide) rfl ?_
    exact bl m 0 (by omega) none τ0 (fun a b c z => absurd z (Nat.not_lt_zero _)) hf0 hfs0 hT0 _ _ _
  have outer : ∀ (k : Nat) (T : nj_T), T.k + k = m - 1 → ∀ (s : Int32) (τ : sw_Sg), nb_ m s (nj_M T) → nj_R D pl m T.k T → fr_ [59, 72, 73, 74, 75, 76] σ τ → fs_ [21, 22, 23] σ τ → mc_T n h kd br D pl m T τ → ∀ A B C D' E F G,
      SW X 3 mX8_layNet sw_E0 (sw_Rv (fun u => fr_ [59, 72, 73, 74, 75, 76] σ u ∧ fs_ [21, 22, 23] σ u ∧ ∃ T, nk_N n h kd br m pl D T ∧ mc_T n h kd br D pl m T u)) 61 [.ref (sw_ad X 59), .int s, .int 1, A, B, C, D', E, F, G] [] τ := by
    intro k
    induction k with
    | zero =>
      intro T hk s τ hS hR hf hfs hT
      refine scan T s τ hS hR hf hfs hT (fun T' s' τ' e _ hR' _ _ _ => ?_)
      have := (nj_R_I _ T' hR').k
      omega
    | succ k ih =>
      intro T hk s τ hS hR hf hfs hT
      exact scan T s τ hS hR hf hfs hT (fun T' s' τ' e hS' hR' hf' hfs' hT' => ih T' (by omega) s' τ' hS' hR' hf' hfs' hT')
  have zero : ∀ (k p : Nat), p + k = n * n → ∀ (τ : sw_Sg), fr_ [59, 72, 73, 74, 75, 76] σ τ → fs_ [21, 22, 23] σ τ → τ 59 21 = nI (0 + (if 0 < m then 1 else 0)) → τ 59 22 = 0 → τ 59 23 = 0 → (∀ v, v < p → τ 74 v = 0) → ∀ Z A B C D' E F G,
      SW X 3 mX8_layNet sw_E0 (sw_Rv (fun u => fr_ [59, 72, 73, 74, 75, 76] σ u ∧ fs_ [21, 22, 23] σ u ∧ ∃ T, nk_N n h kd br m pl D T ∧ mc_T n h kd br D pl m T u)) 28 [.ref (sw_ad X 59), .int (nI p), Z, A, B, C, D', E, F, G] [] τ := by
    intro k
    induction k with
    | zero =>
      intro p hp τ hf hfs e1 e2 e3 hI Z A B C D' E F G
      obtain rfl : p = n * n := by omega
      refine SW.iload_n (q := 29) (i := 1) dX8_layNet_28 rfl rfl rfl ?_
      refine SW.aload_n (q := 30) (i := 0) dX8_layNet_29 rfl rfl rfl ?_
      refine SW.getI (q := 33) (i := 59) fX8_7 rfl rfl dX8_layNet_30 rfl ?_
      refine SW.aload_n (q := 34) (i := 0) dX8_layNet_33 rfl rfl rfl ?_
      refine SW.getI (q := 37) (i := 59) fX8_7 rfl rfl dX8_layNet_34 rfl ?_
      refine SW.imul (q := 38) dX8_layNet_37 rfl ?_
      refine SW.icmp_ge (q := 41) (tgt := 54) dX8_layNet_38 (by decide) rfl (fun _ => ?_) (fun c38 => absurd ((by rw [hfs 1 (by decide), en, pk_mul]; exact Int32.le_refl _)) c38)
      refine SW.aload_n (q := 55) (i := 0) dX8_layNet_54 rfl rfl rfl ?_
      refine SW.getI (q := 58) (i := 59) fX8_152 rfl rfl dX8_layNet_55 rfl ?_
      refine SW.istore_n (q := 59) (i := 1) dX8_layNet_58 rfl (by decide) rfl ?_
      refine SW.iconst (q := 60) (v := 1) dX8_layNet_59 (by decide) rfl ?_
      refine SW.istore_n (q := 61) (i := 2) dX8_layNet_60 rfl (by decide) rfl ?_
      refine outer (m - 1) nj_0 (by show 0 + _ = _; omega) _ τ ⟨0 + (if 0 < m then 1 else 0), by split <;> omega, e1, fun a ha => ?_⟩ rfl hf hfs ⟨e1, e2, e3, fun i hi => absurd hi (Nat.not_lt_zero _), hI⟩ _ _ _ _ _ _ _
      have z : (0 + (if 0 < m then 1 else 0)) = 1 := by rw [if_pos (by omega)]
      rw [z]
      have : a = 0 ∨ a = 1 ∨ a = 2 ∨ a = 3 ∨ a = 4 ∨ a = 5 := by omega
      constructor
      · intro y
        rcases this with rfl | rfl | rfl | rfl | rfl | rfl
        · exact Or.inl rfl
        all_goals exact absurd y (by decide)
      · rintro (y | ⟨i, i1, -⟩)
        · subst y; rfl
        · exact absurd i1 (Nat.not_lt_zero _)
    | succ k ih =>
      intro p hp τ hf hfs e1 e2 e3 hI Z A B C D' E F G
      refine SW.iload_n (q := 29) (i := 1) dX8_layNet_28 rfl rfl rfl ?_
      refine SW.aload_n (q := 30) (i := 0) dX8_layNet_29 rfl rfl rfl ?_
      refine SW.getI (q := 33) (i := 59) fX8_7 rfl rfl dX8_layNet_30 rfl ?_
      refine SW.aload_n (q := 34) (i := 0) dX8_layNet_33 rfl rfl rfl ?_
      refine SW.getI (q := 37) (i := 59) fX8_7 rfl rfl dX8_layNet_34 rfl ?_
      refine SW.imul (q := 38) dX8_layNet_37 rfl ?_
      refine SW.icmp_ge (q := 41) (tgt := 54) dX8_layNet_38 (by decide) rfl (fun c38 => absurd c38 ((by rw [hfs 1 (by decide), en, pk_mul]; exact nI_ge (by omega) (by omega)))) (fun _ => ?_)
      refine SW.aload_n (q := 42) (i := 0) dX8_layNet_41 rfl rfl rfl ?_
      refine SW.getR (q := 45) (i := 59) (j := 74) fX8_56 rfl rfl dX8_layNet_42 rfl ?_
      refine SW.iload_n (q := 46) (i := 1) dX8_layNet_45 rfl rfl rfl ?_
      refine SW.iconst (q := 47) (v := 0) dX8_layNet_46 (by decide) rfl ?_
      refine SW.iastN (q := 48) (k := p) rfl (rfl) (by omega) (by decide) dX8_layNet_47 rfl ?_
      refine SW.iinc (q := 51) (v := _ + 1) dX8_layNet_48 rfl rfl (by decide) rfl ?_
      refine SW.goto (q := 28) dX8_layNet_51 (by decide) ?_
      refine SW.eq (by rw [nI_1]; rfl) rfl rfl (ih (p + 1) (by omega) _ (fr_up hf (by decide)) (fs_up hfs (by decide)) (by rw [sw_un (by decide)]; exact e1) (by rw [sw_un (by decide)]; exact e2) (by rw [sw_un (by decide)]; exact e3) (fun v hv => ?_) _ _ _ _ _ _ _ _)
      by_cases z : v = p
      · subst z; exact sw_i1
      · rw [sw_o1 z]; exact hI v (by omega)
  have mid : ∀ v, v = nI (0 + (if 0 < m then 1 else 0)) → ∀ Y Z A B C D' E F G, SW X 3 mX8_layNet sw_E0 (sw_Rv (fun u => fr_ [59, 72, 73, 74, 75, 76] σ u ∧ fs_ [21, 22, 23] σ u ∧ ∃ T, nk_N n h kd br m pl D T ∧ mc_T n h kd br D pl m T u)) 13 [.ref (sw_ad X 59), Y, Z, A, B, C, D', E, F, G] [.int v, .ref (sw_ad X 59)] σ := by
    intro v hv Y Z A B C D' E F G
    refine SW.putI (q := 16) (i := 59) pX8_152 rfl rfl dX8_layNet_13 rfl ?_
    refine SW.aload_n (q := 17) (i := 0) dX8_layNet_16 rfl rfl rfl ?_
    refine SW.iconst (q := 18) (v := 0) dX8_layNet_17 (by decide) rfl ?_
    refine SW.putI (q := 21) (i := 59) pX8_155 rfl rfl dX8_layNet_18 rfl ?_
    refine SW.aload_n (q := 22) (i := 0) dX8_layNet_21 rfl rfl rfl ?_
    refine SW.iconst (q := 23) (v := 0) dX8_layNet_22 (by decide) rfl ?_
    refine SW.putI (q := 26) (i := 59) pX8_158 rfl rfl dX8_layNet_23 rfl ?_
    refine SW.iconst (q := 27) (v := 0) dX8_layNet_26 (by decide) rfl ?_
    refine SW.istore_n (q := 28) (i := 1) dX8_layNet_27 rfl (by decide) rfl ?_
    exact zero (n * n) 0 (by omega) _ (fr_up (fr_up (fr_up fr_rf (by decide)) (by decide)) (by decide)) (fs_ups (fs_ups (fs_ups fs_rf (by decide)) (by decide)) (by decide)) (by rw [sw_o1 (by decide), sw_o1 (by decide), sw_i1]; exact hv) (by rw [sw_o1 (by decide), sw_i1]) sw_i1 (fun v hv => absurd hv (Nat.not_lt_zero _)) _ _ _ _ _ _ _ _
  have em : σ 59 19 = nI m := hP.1
  by_cases z : m = 0
  · refine SW.aload_n (q := 1) (i := 0) dX8_layNet_0 rfl rfl rfl ?_
    refine SW.aload_n (q := 2) (i := 0) dX8_layNet_1 rfl rfl rfl ?_
    refine SW.getI (q := 5) (i := 59) fX8_134 rfl rfl dX8_layNet_2 rfl ?_
    refine SW.if_le (q := 8) (tgt := 12) dX8_layNet_5 (by decide) rfl (fun _ => ?_) (fun c5 => absurd ((by rw [em, z]; decide)) c5)
    refine SW.iconst (q := 13) (v := 0) dX8_layNet_12 (by decide) rfl ?_
    exact mid _ (by rw [if_neg (by omega)]; rfl) _ _ _ _ _ _ _ _ _
  · refine SW.aload_n (q := 1) (i := 0) dX8_layNet_0 rfl rfl rfl ?_
    refine SW.aload_n (q := 2) (i := 0) dX8_layNet_1 rfl rfl rfl ?_
    refine SW.getI (q := 5) (i := 59) fX8_134 rfl rfl dX8_layNet_2 rfl ?_
    refine SW.if_le (q := 8) (tgt := 12) dX8_layNet_5 (by decide) rfl (fun c5 => absurd c5 ((by rw [em]; exact fun y => absurd y (nI_ge (a := 0) (by omega) (by omega))))) (fun _ => ?_)
    refine SW.iconst (q := 9) (v := 1) dX8_layNet_8 (by decide) rfl ?_
    refine SW.goto (q := 13) dX8_layNet_9 (by decide) ?_
    exact mid _ (by rw [if_pos (by omega)]; rfl) _ _ _ _ _ _ _ _ _
end MNET2
