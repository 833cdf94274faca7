/-! THE LAW from its entry -/
/-- what holds at the law's entry: the machine, the code, the tables' words, the script of L ints xs at the cell b, what the Statement gives of the start -/
def lw_At (p : Program) (s : State) (m : MethodId) (meth : Method) (c : Code) (b L : Nat) (xs : Nat → Int32) : Prop :=
  p.tables.exec = Jvm.exec ∧ c.code = code ∧ meth.sig.returnType = ret ∧ c.maxLocals = 4 ∧ s.vm.findClass R_law = some m.cls ∧ (∀ w ∈ lw_tbl, w.before #[Value.ref b] s = true) ∧ va_X b L xs s s.heap ∧ b < s.heap.size ∧ meth.locks = false ∧ (Jvm.Cond.and given_1 narrow_1).before #[Value.ref b] s = true
theorem lw_inst : ∀ (ci : Nat) (q : vw_C), vwCl[ci]? = some q → Cond.instantiable q.1 q.2.2 ∈ sw_W := by
  intro ci q h
  match ci, h with
  | 0, h => cases h; exact in_X0
  | 1, h => cases h; exact in_X1
  | 2, h => cases h; exact in_X2
  | 3, h => cases h; exact in_X3
  | 4, h => cases h; exact in_X4
  | 5, h => cases h; exact in_X5
  | 6, h => cases h; exact in_X6
  | 7, h => cases h; exact in_X7
  | 8, h => cases h; exact in_X8
  | k + 9, h => simp [vwCl] at h
theorem lw_known {args : Array Value} {s : State} (hts : ∀ w ∈ sw_W, w.before args s = true) : ∃ D : va_G, ∀ (ci : Nat) (q : vw_C), vwCl[ci]? = some q → u_Kn s q.1 q.2.1 q.2.2 (D.1 ci) (D.2 ci) := by
  have h : ∀ ci : Nat, ∃ z : ClassId × (Nat → Nat), ∀ q : vw_C, vwCl[ci]? = some q → u_Kn s q.1 q.2.1 q.2.2 z.1 z.2 := by
    intro ci
    cases hq : vwCl[ci]? with
    | none => exact ⟨(0, fun _ => 0), fun q h => by cases h⟩
    | some q =>
      obtain ⟨cC, iS, hk⟩ := u_known (C := q.1) (T := q.2.1) (N := q.2.2) (n := q.2.2) hts (sw_cls ci q hq).1 (hts _ (lw_inst ci q hq))
      exact ⟨(cC, iS), fun q' h => by cases h; exact hk⟩
  exact ⟨(fun ci => (Classical.choose (h ci)).1, fun ci => (Classical.choose (h ci)).2), fun ci q hq => Classical.choose_spec (h ci) q hq⟩
theorem lw_arr {args : Array Value} {s : State} {ty : FieldType} (h : (Cond.arrayClass ty).before args s = true) : ∃ cA : ClassId, ArrOfT s cA ty ∧ s.vm.findClass ("[" ++ ty.toString) = some cA := by
  obtain ⟨cA, kA, comp, h1, h2, h3⟩ := Cond.arrayClass_spec h
  exact ⟨cA, fun n z => ⟨fun k h => (by cases h), kA, h2, comp, h3⟩, h1⟩
theorem gw_cbL {idx n d mc ms : Nat} {me : sw_Me} {args : Array Value} {s : State} (hts : ∀ w ∈ sw_W, w.before args s = true) (h : gw_CI RL idx n me) (hd : d ≤ 6) : CallB room_1 s args RL idx me.1 me.2.1 me.2.2.1 none (sw_wm me) (gw_rm d mc ms) mc ms n ∧ me.1.name = "<init>" ∧ (Cond.instanceMethod me.1).before args s = true := by
  obtain ⟨⟨h1, h2, h3, h4, h5⟩, hl, hi, hn, hr⟩ := h
  refine ⟨?_, hn, hts _ hi⟩
  rw [hr] at h2
  refine ⟨rfl, rfl, ?_, ?_, ?_, ?_, hts _ h2, hts _ h3, h4, fun sig h => ?_, hts _ hl⟩
  · show d + 1 ≤ 9
    omega
  · show 8 + (me.2.2.1 + 11) + 38 * d ≤ 348
    omega
  · rw [← hr] at h2
    exact sw_wm_ok hts h2
  · rw [← hr]
    exact List.mem_cons_self
  · rw [h] at h5
    exact (Option.some.inj h5).symm
theorem lw_stat_FIRST {args : Array Value} {s : State} (hts : ∀ w ∈ lw_tbl, w.before args s = true) (hgv : (Jvm.Cond.and given_1 narrow_1).before args s = true) : ∃ a, st_Z a (fun q => s.heap.size ≤ q) "RULE_FIRST" rl_F s s.heap := by
  have hs := flat_of_before _ hgv
  have harr : (Cond.arrayOf (.static "MadeLand" "RULE_FIRST" "[I") .int).before args s = true := hs _ (by decide +kernel)
  have hlen : (Cond.eq (.length (.static "MadeLand" "RULE_FIRST" "[I")) (.int 4)).before args s = true := hs _ (by decide +kernel)
  obtain ⟨t, ht, hT⟩ := va_Tof (N := 4) (f := fun j => Value.int (rl_F j)) (A := fun q => s.heap.size ≤ q) (by decide) harr (va_eqt hlen) (fun j hj => by
    rcases (show j = 0 ∨ j = 1 ∨ j = 2 ∨ j = 3 by omega) with rfl | rfl | rfl | rfl
    · exact va_eqt (hs (Cond.eq (.elem (.static "MadeLand" "RULE_FIRST" "[I") (.int 0)) (.int 80)) (by decide +kernel))
    · exact va_eqt (hs (Cond.eq (.elem (.static "MadeLand" "RULE_FIRST" "[I") (.int 1)) (.int 8)) (by decide +kernel))
    · exact va_eqt (hs (Cond.eq (.elem (.static "MadeLand" "RULE_FIRST" "[I") (.int 2)) (.int 4)) (by decide +kernel))
    · exact va_eqt (hs (Cond.eq (.elem (.static "MadeLand" "RULE_FIRST" "[I") (.int 3)) (.int 20)) (by decide +kernel))) (fun a ha => Nat.not_le.mpr ha)
  exact ⟨t, va_Zref (hts _ ss_FIRST) (hts _ (List.mem_filter.mp iz_X7).1) ht (fun a ha => Nat.not_le.mpr ha), hT⟩
theorem lw_stat_LEAST {args : Array Value} {s : State} (hts : ∀ w ∈ lw_tbl, w.before args s = true) (hgv : (Jvm.Cond.and given_1 narrow_1).before args s = true) : ∃ a, st_Z a (fun q => s.heap.size ≤ q) "RULE_LEAST" rl_L s s.heap := by
  have hs := flat_of_before _ hgv
  have harr : (Cond.arrayOf (.static "MadeLand" "RULE_LEAST" "[I") .int).before args s = true := hs _ (by decide +kernel)
  have hlen : (Cond.eq (.length (.static "MadeLand" "RULE_LEAST" "[I")) (.int 4)).before args s = true := hs _ (by decide +kernel)
  obtain ⟨t, ht, hT⟩ := va_Tof (N := 4) (f := fun j => Value.int (rl_L j)) (A := fun q => s.heap.size ≤ q) (by decide) harr (va_eqt hlen) (fun j hj => by
    rcases (show j = 0 ∨ j = 1 ∨ j = 2 ∨ j = 3 by omega) with rfl | rfl | rfl | rfl
    · exact va_eqt (hs (Cond.eq (.elem (.static "MadeLand" "RULE_LEAST" "[I") (.int 0)) (.int 0)) (by decide +kernel))
    · exact va_eqt (hs (Cond.eq (.elem (.static "MadeLand" "RULE_LEAST" "[I") (.int 1)) (.int 2)) (by decide +kernel))
    · exact va_eqt (hs (Cond.eq (.elem (.static "MadeLand" "RULE_LEAST" "[I") (.int 2)) (.int 1)) (by decide +kernel))
    · exact va_eqt (hs (Cond.eq (.elem (.static "MadeLand" "RULE_LEAST" "[I") (.int 3)) (.int 0)) (by decide +kernel))) (fun a ha => Nat.not_le.mpr ha)
  exact ⟨t, va_Zref (hts _ ss_LEAST) (hts _ (List.mem_filter.mp iz_X7).1) ht (fun a ha => Nat.not_le.mpr ha), hT⟩
theorem lw_stat_MOST {args : Array Value} {s : State} (hts : ∀ w ∈ lw_tbl, w.before args s = true) (hgv : (Jvm.Cond.and given_1 narrow_1).before args s = true) : ∃ a, st_Z a (fun q => s.heap.size ≤ q) "RULE_MOST" rl_M s s.heap := by
  have hs := flat_of_before _ hgv
  have harr : (Cond.arrayOf (.static "MadeLand" "RULE_MOST" "[I") .int).before args s = true := hs _ (by decide +kernel)
  have hlen : (Cond.eq (.length (.static "MadeLand" "RULE_MOST" "[I")) (.int 4)).before args s = true := hs _ (by decide +kernel)
  obtain ⟨t, ht, hT⟩ := va_Tof (N := 4) (f := fun j => Value.int (rl_M j)) (A := fun q => s.heap.size ≤ q) (by decide) harr (va_eqt hlen) (fun j hj => by
    rcases (show j = 0 ∨ j = 1 ∨ j = 2 ∨ j = 3 by omega) with rfl | rfl | rfl | rfl
    · exact va_eqt (hs (Cond.eq (.elem (.static "MadeLand" "RULE_MOST" "[I") (.int 0)) (.int 255)) (by decide +kernel))
    · exact va_eqt (hs (Cond.eq (.elem (.static "MadeLand" "RULE_MOST" "[I") (.int 1)) (.int 200)) (by decide +kernel))
    · exact va_eqt (hs (Cond.eq (.elem (.static "MadeLand" "RULE_MOST" "[I") (.int 2)) (.int 12)) (by decide +kernel))
    · exact va_eqt (hs (Cond.eq (.elem (.static "MadeLand" "RULE_MOST" "[I") (.int 3)) (.int 100)) (by decide +kernel))) (fun a ha => Nat.not_le.mpr ha)
  exact ⟨t, va_Zref (hts _ ss_MOST) (hts _ (List.mem_filter.mp iz_X7).1) ht (fun a ha => Nat.not_le.mpr ha), hT⟩
theorem lw_has4 {ls : Array Slot} {a b c d : Value} (h : lv_has ls 4 [(3, d), (2, c), (1, b), (0, a)]) (h1 : a.category = 1) (h2 : b.category = 1) (h3 : c.category = 1) (h4 : d.category = 1) : sw_has ls 4 [a, b, c, d] := by
  refine ⟨h.1, h.2.1, fun i v hi hv => ?_⟩
  match i, hi with
  | 0, hi => cases hi; exact ⟨h.2.2 (0, a) (by simp), h1⟩
  | 1, hi => cases hi; exact ⟨h.2.2 (1, b) (by simp), h2⟩
  | 2, hi => cases hi; exact ⟨h.2.2 (2, c) (by simp), h3⟩
  | 3, hi => cases hi; exact ⟨h.2.2 (3, d) (by simp), h4⟩
  | k + 4, hi => simp at hi
set_option maxHeartbeats 4000000 in
/-- from the entry, for every script of at most 2048 ints, the law comes to its end with true -/
theorem whole_start {p : Program} {e : Env} {s : State} {m : MethodId} {below : List Frame} {meth : Method} {c : Code} (l : Launch) (hflags : l.flags = flags0) {b L : Nat} {xs : Nat → Int32} (hL : L ≤ 2048) (C0 : lw_At p s m meth c b L xs) : W p l e room_1 s m #[Value.ref b] below meth c s.heap [] 0 0 (lw_Z below #[Value.ref b] s) (entryFrame m ([Value.ref b] : List Value).toArray 4) := by
  obtain ⟨hx, hb, hr, hml, hown, hts, hX, hbl, hlk, hgv⟩ := id C0
  have hown : s.vm.findClass RL = some m.cls := hown
  have htw : ∀ w ∈ sw_W, w.before #[Value.ref b] s = true := fun w hw => hts w (List.mem_filter.mp hw).1
  obtain ⟨D, hKn⟩ := lw_known htw
  obtain ⟨cI, hI1, hI2⟩ := lw_arr (htw _ ac_i)
  obtain ⟨cZ, hZ1, hZ2⟩ := lw_arr (htw _ ac_z)
  have hK : va_K D vwCl [(cI, .int), (cZ, .boolean)] s := ⟨hKn, fun k q hk => by
    match k, hk with
    | 0, hk => cases hk; exact ⟨hI1, hI2⟩
    | 1, hk => cases hk; exact ⟨hZ1, hZ2⟩
    | k + 2, hk => simp at hk⟩
  have hN : sw_N s := sw_N.of hts
  obtain ⟨aF, hF⟩ := lw_stat_FIRST hts hgv
  obtain ⟨aL, hLe⟩ := lw_stat_LEAST hts hgv
  obtain ⟨aM, hMo⟩ := lw_stat_MOST hts hgv
  have hG : gw_K (l, D, cI, cZ) s := ⟨hK, hN⟩
  have hA : ∀ q : Nat, s.heap.size ≤ q → (fun q : Nat => s.heap.size ≤ q) q := fun _ h => h
  have hS : va_S (fun q : Nat => s.heap.size ≤ q) s.heap s.heap [] := va_S.rf
  have hP : va_P D vwCl [] s.heap := fun k q h => by simp at h
  have hD : va_D (fun q : Nat => s.heap.size ≤ q) [] := ⟨fun i j p q h => by simp at h, fun k q h => by simp at h⟩
  have sub : ∀ (ws : va_W) (H : Heap), va_D (fun q : Nat => s.heap.size ≤ q) ws → s.heap.size ≤ H.size → ∀ q, va_A ws H.size q → s.heap.size ≤ q := by
    intro ws H hD hs q hq
    rcases hq with ⟨k, e, hk⟩ | hq
    · exact hD.2 k (q, e) hk
    · exact Nat.le_trans hs hq
  have hl := lv_entry ([.ref b]) (n := 4) (Nat.le_of_ble_eq_true rfl)
  rw [lg_entry_eq]
  generalize (lg_sl ([.ref b]) ++ List.replicate (4 - (lg_sl ([.ref b])).length) Slot.unset).toArray = ls at hl ⊢
  have hl : lv_has ls 4 [(0, .ref b)] := hl
  refine va_new (ci := 7) (fs := [.null, .null, .null, .null, .null, .null, .null, .int 0, .int 0]) (C := RX7) (T := TX7) (N := 9) (Ts := sw_W) hx hb htw (sw_cls 7 _ rfl).1 tyX7 tyX7_ok hown (htw _ clL_7) (htw _ in_X7) (htw _ iz_X7) hK hP hD hS hA rfl (fun j hj => by rcases (show j = 0 ∨ j = 1 ∨ j = 2 ∨ j = 3 ∨ j = 4 ∨ j = 5 ∨ j = 6 ∨ j = 7 ∨ j = 8 by omega) with rfl | rfl | rfl | rfl | rfl | rfl | rfl | rfl | rfl <;> rfl) (Nat.le_of_ble_eq_true rfl) (Nat.le_of_ble_eq_true rfl) dL_law_0 (fun h H1 hP1 hD1 hS1 => ?_)
  refine lv_dup hx hb dL_law_3 rfl ?_
  have hE1 : ∀ U : State, U.heap = H1 → s.WarmedH U.vm → st_Z aF (va_A [(h, .inr (7, [.null, .null, .null, .null, .null, .null, .null, .int 0, .int 0]))] U.heap.size) "RULE_FIRST" rl_F U U.heap := by
    intro U hU hW
    have h2 := ((hF.kept (H1 := H1) (fun a h1 h2 => hS1.2.1 a h1 h2)).moved hW.alike).narrow (B := va_A [(h, .inr (7, [.null, .null, .null, .null, .null, .null, .null, .int 0, .int 0]))] H1.size) (sub _ H1 hD1 hS1.1)
    rw [hU]; exact h2
  refine va_callv (va_runI (As := []) (rest := [.ref h]) (Ts := sw_W) ⟨hx, hb, hml, hown, htw⟩ (I_X7 (Y := (l, D, cI, cZ)) (h := h) (a := aF) H1.size) (gw_cbL htw cL_9 (by omega)) ⟨gw_Pc_blind (fun U g mk a h => h.moved (U := U.calling g mk a) (Vm.Alike.refl U.vm)), fun U hU hW => ⟨rfl, by rw [hU], by rw [hU]; exact hP1, hG.warm hW, hD1.weaken (fun _ _ _ _ => trivial), hE1 U hU hW⟩⟩ rfl rfl hl.1 rfl (lv_room (Nat.le_of_ble_eq_true rfl)) dL_law_4 ⟨Nat.le_of_ble_eq_true rfl, Nat.le_of_ble_eq_true rfl⟩) hS1 (fun q _ h => sub _ H1 hD1 hS1.1 q h) (sub _ H1 hD1 hS1.1) (fun u t0 H2 locs2 ht hvm hpost hB hz hk hS2 => ?_)
  obtain ⟨t, w, pp, ss, n, g, r, ra, f5, f6, f2, f4, f1, f0, rfl⟩ := hpost
  obtain ⟨hP2, hD2⟩ := hB
  rw [ht] at hP2
  have hD2 := hD2.weaken (B := fun q : Nat => s.heap.size ≤ q) (fun _ q _ h => sub _ H1 hD1 hS1.1 q.1 h)
  refine lv_astore_n (lv' := [(1, .ref h), (0, .ref b)]) hx hb dL_law_7 rfl hl (by decide) rfl (fun ls hl => ?_)
  refine va_new (ci := 8) (fs := [.int 0, .int 0, .int 0, .int 0, .null, .int 0, .int 0, .null, .null, .null, .int 0, .null, .null, .null, .null, .null, .null, .null, .int 0, .int 0, .null, .int 0, .int 0, .int 0, .null, .null, .null, .null, .null, .null]) (C := RX8) (T := TX8) (N := 30) (Ts := sw_W) hx hb htw (sw_cls 8 _ rfl).1 tyX8 tyX8_ok hown (htw _ clL_10) (htw _ in_X8) (htw _ iz_X8) hK hP2 hD2 hS2 hA rfl (fun j hj => by rcases (show j = 0 ∨ j = 1 ∨ j = 2 ∨ j = 3 ∨ j = 4 ∨ j = 5 ∨ j = 6 ∨ j = 7 ∨ j = 8 ∨ j = 9 ∨ j = 10 ∨ j = 11 ∨ j = 12 ∨ j = 13 ∨ j = 14 ∨ j = 15 ∨ j = 16 ∨ j = 17 ∨ j = 18 ∨ j = 19 ∨ j = 20 ∨ j = 21 ∨ j = 22 ∨ j = 23 ∨ j = 24 ∨ j = 25 ∨ j = 26 ∨ j = 27 ∨ j = 28 ∨ j = 29 by omega) with rfl | rfl | rfl | rfl | rfl | rfl | rfl | rfl | rfl | rfl | rfl | rfl | rfl | rfl | rfl | rfl | rfl | rfl | rfl | rfl | rfl | rfl | rfl | rfl | rfl | rfl | rfl | rfl | rfl | rfl <;> rfl) (Nat.le_of_ble_eq_true rfl) (Nat.le_of_ble_eq_true rfl) dL_law_8 (fun m0 H3 hP3 hD3 hS3 => ?_)
  refine lv_dup hx hb dL_law_11 rfl ?_
  refine va_callv (va_runI (As := []) (rest := [.ref m0]) (Ts := sw_W) ⟨hx, hb, hml, hown, htw⟩ (I_X8 (Y := (l, D, cI, cZ)) (h := m0) (cC7 (l, D, cI, cZ) h t w pp ss n g r ra f5 f6 f2 f4 f1 f0) H3.size) (gw_cbL htw cL_12 (by omega)) ⟨gw_Pc_blind (fun U g mk a h => trivial), fun U hU hW => ⟨rfl, by rw [hU], by rw [hU]; exact hP3, hG.warm hW, hD3.weaken (fun _ _ _ _ => trivial), trivial⟩⟩ rfl rfl hl.1 rfl (lv_room (Nat.le_of_ble_eq_true rfl)) dL_law_12 ⟨Nat.le_of_ble_eq_true rfl, Nat.le_of_ble_eq_true rfl⟩) hS3 (fun q _ h => sub _ H3 hD3 hS3.1 q h) (sub _ H3 hD3 hS3.1) (fun u t1 H4 locs4 ht4 hvm4 hpost hB4 hz4 hk4 hS4 => ?_)
  obtain ⟨cs, rfl, f8, rfl⟩ := hpost
  obtain ⟨hP4, hD4⟩ := hB4
  rw [ht4] at hP4
  have hD4 := hD4.weaken (B := fun q : Nat => s.heap.size ≤ q) (fun _ q _ h => sub _ H3 hD3 hS3.1 q.1 h)
  have hP5 := w78_P (l := l) hP4
  obtain ⟨hdis, had⟩ := w78_D (l := l) hD4
  refine lv_astore_n (lv' := [(2, .ref m0), (1, .ref h), (0, .ref b)]) hx hb dL_law_15 rfl hl (by decide) rfl (fun ls hl => ?_)
  refine lv_iconst (v := 0) hx hb dL_law_16 (by decide) ?_
  refine lv_istore_n (lv' := [(3, .int 0), (2, .ref m0), (1, .ref h), (0, .ref b)]) hx hb dL_law_17 rfl hl (by decide) rfl (fun ls hl => ?_)
  refine W.widen (k := 600000) (n := 7302249) (Nat.le_of_ble_eq_true rfl) (Nat.le_of_ble_eq_true rfl) ?_
  refine va_forget (fun q hq => hS4.2.2 q hq) ?_
  have C : LC (x78 l D cI cZ h t w pp ss n g r ra m0 f5 f6 f2 f4 f1 f0 f8) aL aM b L xs p s m meth c := ⟨hx, hb, hr, hml, hown, htw, hX, hbl, hlk, hL, ⟨hK, hN⟩, hdis, had, hLe, hMo⟩
  exact law_loop C (L + 8) 0 (by omega) (by omega) s78 s78_J H4 ls hP5 ⟨hS4.1, hS4.2.1, fun _ h => by cases h⟩ (lw_has4 hl rfl rfl rfl rfl)
