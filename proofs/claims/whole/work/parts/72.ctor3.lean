/-! static arrays; the constructor of MadeLand -/
/-- a static array of four ints of the class: its address is a, it lies outside A -/
def st_Z (a : Nat) (A : Nat → Prop) (nm : String) (f : Nat → Int32) (U : State) (H : Heap) : Prop := va_Z "MadeLand" nm "[I" (.ref a) A U H ∧ va_T .int a 4 (fun j => .int (f j)) A U H
def rl_F : Nat → Int32 := fun j => if j = 0 then 80 else if j = 1 then 8 else if j = 2 then 4 else 20
def rl_L : Nat → Int32 := fun j => if j = 0 then 0 else if j = 1 then 2 else if j = 2 then 1 else 0
def rl_M : Nat → Int32 := fun j => if j = 0 then 255 else if j = 1 then 200 else if j = 2 then 12 else 100
section STAT
variable {X : sw_X} {σ : sw_Sg} {Y : gw_D} {d mc ms k n a : Nat} {nm : String} {f : Nat → Int32} {me : sw_Me} {E : State → Prop} {R : va_W → Prop} {R' : Option Value → sw_Sg → Prop} {w0 ws : va_W} {pc q : Nat} {L st : List Value} {x : Int32}
theorem GW.gets {idx : Nat} (hE : ∀ s, E s → st_Z a (va_A w0 s.heap.size) nm f s s.heap) (hw : Cond.fieldLink me.1.cls idx "MadeLand" nm "[I" ∈ sw_W) (hd : decode me.2.1 pc = .ok (.getstatic idx, 3)) (hq : pc + 3 = q) (kk : GW Y d mc ms me E R w0 k n q L (.ref a :: st) ws) : GW Y d mc ms me E R w0 k n pc L st ws := by
  subst hq
  intro p e s m args below meth c H locs ls C hl
  have kk := kk p e s m args below meth c H locs ls C hl
  obtain ⟨hx, hb, hr', hml, hown, hts, hlk, hK, hD, hEs, hP, hS, hnm⟩ := C
  exact va_gets hx hb (hE s hEs).1 hS hown (hts _ hw) (fun _ h => h) hd kk
theorem GW.slen {v : Int32} (hE : ∀ s, E s → st_Z a (va_A w0 s.heap.size) nm f s s.heap) (hv : Int32.ofNat 4 = v) (hd : decode me.2.1 pc = .ok (.arraylength, 1)) (hq : pc + 1 = q) (kk : GW Y d mc ms me E R w0 k n q L (.int v :: st) ws) : GW Y d mc ms me E R w0 k n pc L (.ref a :: st) ws := by
  subst hq
  subst hv
  intro p e s m args below meth c H locs ls C hl
  have kk := kk p e s m args below meth c H locs ls C hl
  obtain ⟨hx, hb, hr', hml, hown, hts, hlk, hK, hD, hEs, hP, hS, hnm⟩ := C
  exact va_tlen hx hb (hE s hEs).2 hS rfl hd kk
theorem GW.sldN {j : Nat} {v : Int32} (hE : ∀ s, E s → st_Z a (va_A w0 s.heap.size) nm f s s.heap) (hx0 : x = nI j) (hj : j < 4) (hv : f j = v) (hd : decode me.2.1 pc = .ok (.iaload, 1)) (hq : pc + 1 = q) (kk : GW Y d mc ms me E R w0 k n q L (.int v :: st) ws) : GW Y d mc ms me E R w0 k n pc L (.int x :: .ref a :: st) ws := by
  subst hq
  subst hv
  subst hx0
  intro p e s m args below meth c H locs ls C hl
  have kk := kk p e s m args below meth c H locs ls C hl
  obtain ⟨hx, hb, hr', hml, hown, hts, hlk, hK, hD, hEs, hP, hS, hnm⟩ := C
  exact va_ti hx hb (hE s hEs).2 hS (vp_in_nI hj (by omega)) (congrArg (fun t => Value.int (f t)) (nI_clamp (by omega))) hd kk
theorem SW.gets {idx : Nat} (hE : ∀ s, E s → st_Z a (sw_A X s.heap.size) nm f s s.heap) (hw : Cond.fieldLink me.1.cls idx "MadeLand" nm "[I" ∈ sw_W) (hd : decode me.2.1 pc = .ok (.getstatic idx, 3)) (hq : pc + 3 = q) (kk : SW X d me E R' q L (.ref a :: st) σ) : SW X d me E R' pc L st σ := by
  subst hq
  intro p e s m args below meth c H locs ls C hl
  have kk := kk p e s m args below meth c H locs ls C hl
  obtain ⟨hx, hb, hr, hml, hown, hts, hlk, hK, hdis, hEs, hP, hS⟩ := C
  exact va_gets hx hb (hE s hEs).1 hS hown (hts _ hw) (fun _ h => h) hd kk
theorem SW.sldN {k : Nat} (hE : ∀ s, E s → st_Z a (sw_A X s.heap.size) nm f s s.heap) (hx0 : x = nI k) (hj : k < 4) (hd : decode me.2.1 pc = .ok (.iaload, 1)) (hq : pc + 1 = q) (kk : SW X d me E R' q L (.int (f k) :: st) σ) : SW X d me E R' pc L (.int x :: .ref a :: st) σ := by
  subst hq
  subst hx0
  intro p e s m args below meth c H locs ls C hl
  have kk := kk p e s m args below meth c H locs ls C hl
  obtain ⟨hx, hb, hr, hml, hown, hts, hlk, hK, hdis, hEs, hP, hS⟩ := C
  exact va_ti hx hb (hE s hEs).2 hS (vp_in_nI hj (by omega)) (congrArg (fun t => Value.int (f t)) (nI_clamp (by omega))) hd kk
end STAT
def cL7 (Y : gw_D) (r ra : Nat) : va_W := [(r, .inr (3, [.ref ra])), (ra, .inl (Y.2.2.1, 4, .inl (upd (upd (upd (upd (fun _ => 0) 0 80) 1 8) 2 4) 3 20)))]
def cC7 (Y : gw_D) (h t w p s n g r ra : Nat) (f5 f6 f2 f4 f1 f0 : Nat → Nat) : va_W := [] ++ (h, .inr (7, [.ref t, .ref w, .ref p, .ref s, .ref n, .ref g, .ref r, .int 0, .int 0])) :: ((((((([] ++ cC5 Y t f5) ++ cC6 Y w f6) ++ cC2 Y p f2) ++ cC4 Y s f4) ++ cC1 Y n f1) ++ cC0 Y g f0) ++ cL7 Y r ra)
theorem I_X7 {Y : gw_D} {h a : Nat} : gw_M Y 3 58 15740 (fun s => st_Z a (va_A [(h, .inr (7, [.null, .null, .null, .null, .null, .null, .null, .int 0, .int 0]))] s.heap.size) "RULE_FIRST" rl_F s s.heap) mX7_init [.ref h] [(h, .inr (7, [.null, .null, .null, .null, .null, .null, .null, .int 0, .int 0]))] (fun ws' => ∃ (t w p s n g r ra : Nat) (f5 f6 f2 f4 f1 f0 : Nat → Nat), ws' = cC7 Y h t w p s n g r ra f5 f6 f2 f4 f1 f0) := by
  have hE : ∀ s : State, (fun s : State => st_Z a (va_A [(h, .inr (7, [.null, .null, .null, .null, .null, .null, .null, .int 0, .int 0]))] s.heap.size) "RULE_FIRST" rl_F s s.heap) s → st_Z a (va_A [(h, .inr (7, [.null, .null, .null, .null, .null, .null, .null, .int 0, .int 0]))] s.heap.size) "RULE_FIRST" rl_F s s.heap := fun _ h => h
  refine gw_M.of (by decide +kernel) rfl (Nat.le_of_ble_eq_true rfl) rfl ?_
  refine GW.ws (ws' := [] ++ (h, .inr (7, [.null, .null, .null, .null, .null, .null, .null, .int 0, .int 0])) :: []) rfl ?_
  refine GW.aload_n (i := 0) dX7_init_0 rfl rfl rfl ?_
  refine GW.objInit oi_X7 oi_i oi_c (by omega) (Nat.le_of_ble_eq_true rfl) dX7_init_1 rfl ?_
  refine GW.aload_n (i := 0) dX7_init_4 rfl rfl rfl ?_
  refine GW.newT (ci := 5) (fs := [.int 0, .int 0, .int 0, .int 0, .int 0, .int 0, .null, .null, .null, .null, .null, .null, .null]) rfl tyX5_ok (fun j hj => by rcases (show j = 0 ∨ j = 1 ∨ j = 2 ∨ j = 3 ∨ j = 4 ∨ j = 5 ∨ j = 6 ∨ j = 7 ∨ j = 8 ∨ j = 9 ∨ j = 10 ∨ j = 11 ∨ j = 12 by omega) with rfl | rfl | rfl | rfl | rfl | rfl | rfl | rfl | rfl | rfl | rfl | rfl | rfl <;> rfl) clX7_9 in_X5 iz_X5 (by omega) (by omega) dX7_init_5 rfl (fun q5 => ?_)
  refine GW.dup dX7_init_8 rfl rfl ?_
  refine GW.callIN I_X5 cX7_11 (by omega) (by omega) (by omega) rfl rfl (Nat.le_of_ble_eq_true rfl) dX7_init_9 rfl (fun cs9 r9 => ?_)
  obtain ⟨f9, rfl⟩ := r9
  refine GW.putS (fs' := [.ref q5, .null, .null, .null, .null, .null, .null, .int 0, .int 0]) gX7_12 rfl rfl rfl (Nat.le_of_ble_eq_true rfl) rfl dX7_init_12 rfl ?_
  refine GW.aload_n (i := 0) dX7_init_15 rfl rfl rfl ?_
  refine GW.newT (ci := 6) (fs := [.null, .null, .null, .null, .null, .null, .null, .null, .int 0]) rfl tyX6_ok (fun j hj => by rcases (show j = 0 ∨ j = 1 ∨ j = 2 ∨ j = 3 ∨ j = 4 ∨ j = 5 ∨ j = 6 ∨ j = 7 ∨ j = 8 by omega) with rfl | rfl | rfl | rfl | rfl | rfl | rfl | rfl | rfl <;> rfl) clX7_16 in_X6 iz_X6 (by omega) (by omega) dX7_init_16 rfl (fun q16 => ?_)
  refine GW.dup dX7_init_19 rfl rfl ?_
  refine GW.callIN I_X6 cX7_18 (by omega) (by omega) (by omega) rfl rfl (Nat.le_of_ble_eq_true rfl) dX7_init_20 rfl (fun cs20 r20 => ?_)
  obtain ⟨f20, rfl⟩ := r20
  refine GW.putS (fs' := [.ref q5, .ref q16, .null, .null, .null, .null, .null, .int 0, .int 0]) gX7_19 rfl rfl rfl (Nat.le_of_ble_eq_true rfl) rfl dX7_init_23 rfl ?_
  refine GW.aload_n (i := 0) dX7_init_26 rfl rfl rfl ?_
  refine GW.newT (ci := 2) (fs := [.null, .null, .null, .int 0]) rfl tyX2_ok (fun j hj => by rcases (show j = 0 ∨ j = 1 ∨ j = 2 ∨ j = 3 by omega) with rfl | rfl | rfl | rfl <;> rfl) clX7_23 in_X2 iz_X2 (by omega) (by omega) dX7_init_27 rfl (fun q27 => ?_)
  refine GW.dup dX7_init_30 rfl rfl ?_
  refine GW.callIN I_X2 cX7_25 (by omega) (by omega) (by omega) rfl rfl (Nat.le_of_ble_eq_true rfl) dX7_init_31 rfl (fun cs31 r31 => ?_)
  obtain ⟨f31, rfl⟩ := r31
  refine GW.putS (fs' := [.ref q5, .ref q16, .ref q27, .null, .null, .null, .null, .int 0, .int 0]) gX7_26 rfl rfl rfl (Nat.le_of_ble_eq_true rfl) rfl dX7_init_34 rfl ?_
  refine GW.aload_n (i := 0) dX7_init_37 rfl rfl rfl ?_
  refine GW.newT (ci := 4) (fs := [.null, .null, .int 0]) rfl tyX4_ok (fun j hj => by rcases (show j = 0 ∨ j = 1 ∨ j = 2 by omega) with rfl | rfl | rfl <;> rfl) clX7_30 in_X4 iz_X4 (by omega) (by omega) dX7_init_38 rfl (fun q38 => ?_)
  refine GW.dup dX7_init_41 rfl rfl ?_
  refine GW.callIN I_X4 cX7_32 (by omega) (by omega) (by omega) rfl rfl (Nat.le_of_ble_eq_true rfl) dX7_init_42 rfl (fun cs42 r42 => ?_)
  obtain ⟨f42, rfl⟩ := r42
  refine GW.putS (fs' := [.ref q5, .ref q16, .ref q27, .ref q38, .null, .null, .null, .int 0, .int 0]) gX7_33 rfl rfl rfl (Nat.le_of_ble_eq_true rfl) rfl dX7_init_45 rfl ?_
  refine GW.aload_n (i := 0) dX7_init_48 rfl rfl rfl ?_
  refine GW.newT (ci := 1) (fs := [.null, .null, .null, .null, .int 0, .int 0, .int 0, .int 0]) rfl tyX1_ok (fun j hj => by rcases (show j = 0 ∨ j = 1 ∨ j = 2 ∨ j = 3 ∨ j = 4 ∨ j = 5 ∨ j = 6 ∨ j = 7 by omega) with rfl | rfl | rfl | rfl | rfl | rfl | rfl | rfl <;> rfl) clX7_37 in_X1 iz_X1 (by omega) (by omega) dX7_init_49 rfl (fun q49 => ?_)
  refine GW.dup dX7_init_52 rfl rfl ?_
  refine GW.callIN I_X1 cX7_39 (by omega) (by omega) (by omega) rfl rfl (Nat.le_of_ble_eq_true rfl) dX7_init_53 rfl (fun cs53 r53 => ?_)
  obtain ⟨f53, rfl⟩ := r53
  refine GW.putS (fs' := [.ref q5, .ref q16, .ref q27, .ref q38, .ref q49, .null, .null, .int 0, .int 0]) gX7_40 rfl rfl rfl (Nat.le_of_ble_eq_true rfl) rfl dX7_init_56 rfl ?_
  refine GW.aload_n (i := 0) dX7_init_59 rfl rfl rfl ?_
  refine GW.newT (ci := 0) (fs := [.null, .int 0, .int 0]) rfl tyX0_ok (fun j hj => by rcases (show j = 0 ∨ j = 1 ∨ j = 2 by omega) with rfl | rfl | rfl <;> rfl) clX7_44 in_X0 iz_X0 (by omega) (by omega) dX7_init_60 rfl (fun q60 => ?_)
  refine GW.dup dX7_init_63 rfl rfl ?_
  refine GW.callIN I_X0 cX7_46 (by omega) (by omega) (by omega) rfl rfl (Nat.le_of_ble_eq_true rfl) dX7_init_64 rfl (fun cs64 r64 => ?_)
  obtain ⟨f64, rfl⟩ := r64
  refine GW.putS (fs' := [.ref q5, .ref q16, .ref q27, .ref q38, .ref q49, .ref q60, .null, .int 0, .int 0]) gX7_47 rfl rfl rfl (Nat.le_of_ble_eq_true rfl) rfl dX7_init_67 rfl ?_
  refine GW.aload_n (i := 0) dX7_init_70 rfl rfl rfl ?_
  refine GW.newT (ci := 3) (fs := [.null]) rfl tyX3_ok (fun j hj => by rcases (show j = 0 by omega) with rfl <;> rfl) clX7_51 in_X3 iz_X3 (by omega) (by omega) dX7_init_71 rfl (fun q71 => ?_)
  refine GW.dup dX7_init_74 rfl rfl ?_
  refine GW.iconst (v := 4) dX7_init_75 (by decide) rfl ?_
  refine GW.callI (I_row (N := 4) rfl (by omega)) cX7_53 (by omega) (by omega) (by omega) rfl rfl (Nat.le_of_ble_eq_true rfl) dX7_init_76 rfl (fun cs76 r76 => ?_)
  obtain ⟨a76, rfl⟩ := r76
  refine GW.putS (fs' := [.ref q5, .ref q16, .ref q27, .ref q38, .ref q49, .ref q60, .ref q71, .int 0, .int 0]) gX7_56 rfl rfl rfl (Nat.le_of_ble_eq_true rfl) rfl dX7_init_79 rfl ?_
  refine GW.aload_n (i := 0) dX7_init_82 rfl rfl rfl ?_
  refine GW.iconst (v := 0) dX7_init_83 (by decide) rfl ?_
  refine GW.putS (fs' := [.ref q5, .ref q16, .ref q27, .ref q38, .ref q49, .ref q60, .ref q71, .int 0, .int 0]) gX7_60 rfl rfl rfl (Nat.le_of_ble_eq_true rfl) rfl dX7_init_84 rfl ?_
  refine GW.aload_n (i := 0) dX7_init_87 rfl rfl rfl ?_
  refine GW.iconst (v := 0) dX7_init_88 (by decide) rfl ?_
  refine GW.putS (fs' := [.ref q5, .ref q16, .ref q27, .ref q38, .ref q49, .ref q60, .ref q71, .int 0, .int 0]) gX7_64 rfl rfl rfl (Nat.le_of_ble_eq_true rfl) rfl dX7_init_89 rfl ?_
  refine GW.iconst (v := 0) dX7_init_92 (by decide) rfl ?_
  refine GW.istore_n (i := 1) dX7_init_93 rfl (by decide) rfl ?_
  refine GW.iload_n (i := 1) dX7_init_94 rfl rfl rfl ?_
  refine GW.gets hE sl_FIRST dX7_init_95 rfl ?_
  refine GW.slen (v := 4) hE rfl dX7_init_98 rfl ?_
  refine GW.icmp_ge (tgt := 121) dX7_init_99 (by decide) rfl (fun c => absurd c (by decide)) (fun _ => ?_)
  refine GW.aload_n (i := 0) dX7_init_102 rfl rfl rfl ?_
  refine GW.get fX7_56 rfl dX7_init_103 rfl ?_
  refine GW.iload_n (i := 1) dX7_init_106 rfl rfl rfl ?_
  refine GW.gets hE sl_FIRST dX7_init_107 rfl ?_
  refine GW.iload_n (i := 1) dX7_init_110 rfl rfl rfl ?_
  refine GW.sldN (j := 0) (v := 80) hE rfl (by omega) rfl dX7_init_111 rfl ?_
  refine GW.callV (j := 0) (I_put (i := 0) rfl (by omega) (by omega)) vX7_71 rfl rfl rfl (by omega) (by omega) (by omega) rfl rfl (Nat.le_of_ble_eq_true rfl) dX7_init_112 rfl (fun cs r => ?_)
  subst r
  refine GW.iinc (v := 1) dX7_init_115 rfl (by decide) (by decide) rfl ?_
  refine GW.goto (q := 94) dX7_init_118 (by decide) ?_
  refine GW.iload_n (i := 1) dX7_init_94 rfl rfl rfl ?_
  refine GW.gets hE sl_FIRST dX7_init_95 rfl ?_
  refine GW.slen (v := 4) hE rfl dX7_init_98 rfl ?_
  refine GW.icmp_ge (tgt := 121) dX7_init_99 (by decide) rfl (fun c => absurd c (by decide)) (fun _ => ?_)
  refine GW.aload_n (i := 0) dX7_init_102 rfl rfl rfl ?_
  refine GW.get fX7_56 rfl dX7_init_103 rfl ?_
  refine GW.iload_n (i := 1) dX7_init_106 rfl rfl rfl ?_
  refine GW.gets hE sl_FIRST dX7_init_107 rfl ?_
  refine GW.iload_n (i := 1) dX7_init_110 rfl rfl rfl ?_
  refine GW.sldN (j := 1) (v := 8) hE rfl (by omega) rfl dX7_init_111 rfl ?_
  refine GW.callV (j := 0) (I_put (i := 1) rfl (by omega) (by omega)) vX7_71 rfl rfl rfl (by omega) (by omega) (by omega) rfl rfl (Nat.le_of_ble_eq_true rfl) dX7_init_112 rfl (fun cs r => ?_)
  subst r
  refine GW.iinc (v := 2) dX7_init_115 rfl (by decide) (by decide) rfl ?_
  refine GW.goto (q := 94) dX7_init_118 (by decide) ?_
  refine GW.iload_n (i := 1) dX7_init_94 rfl rfl rfl ?_
  refine GW.gets hE sl_FIRST dX7_init_95 rfl ?_
  refine GW.slen (v := 4) hE rfl dX7_init_98 rfl ?_
  refine GW.icmp_ge (tgt := 121) dX7_init_99 (by decide) rfl (fun c => absurd c (by decide)) (fun _ => ?_)
  refine GW.aload_n (i := 0) dX7_init_102 rfl rfl rfl ?_
  refine GW.get fX7_56 rfl dX7_init_103 rfl ?_
  refine GW.iload_n (i := 1) dX7_init_106 rfl rfl rfl ?_
  refine GW.gets hE sl_FIRST dX7_init_107 rfl ?_
  refine GW.iload_n (i := 1) dX7_init_110 rfl rfl rfl ?_
  refine GW.sldN (j := 2) (v := 4) hE rfl (by omega) rfl dX7_init_111 rfl ?_
  refine GW.callV (j := 0) (I_put (i := 2) rfl (by omega) (by omega)) vX7_71 rfl rfl rfl (by omega) (by omega) (by omega) rfl rfl (Nat.le_of_ble_eq_true rfl) dX7_init_112 rfl (fun cs r => ?_)
  subst r
  refine GW.iinc (v := 3) dX7_init_115 rfl (by decide) (by decide) rfl ?_
  refine GW.goto (q := 94) dX7_init_118 (by decide) ?_
  refine GW.iload_n (i := 1) dX7_init_94 rfl rfl rfl ?_
  refine GW.gets hE sl_FIRST dX7_init_95 rfl ?_
  refine GW.slen (v := 4) hE rfl dX7_init_98 rfl ?_
  refine GW.icmp_ge (tgt := 121) dX7_init_99 (by decide) rfl (fun c => absurd c (by decide)) (fun _ => ?_)
  refine GW.aload_n (i := 0) dX7_init_102 rfl rfl rfl ?_
  refine GW.get fX7_56 rfl dX7_init_103 rfl ?_
  refine GW.iload_n (i := 1) dX7_init_106 rfl rfl rfl ?_
  refine GW.gets hE sl_FIRST dX7_init_107 rfl ?_
  refine GW.iload_n (i := 1) dX7_init_110 rfl rfl rfl ?_
  refine GW.sldN (j := 3) (v := 20) hE rfl (by omega) rfl dX7_init_111 rfl ?_
  refine GW.callV (j := 0) (I_put (i := 3) rfl (by omega) (by omega)) vX7_71 rfl rfl rfl (by omega) (by omega) (by omega) rfl rfl (Nat.le_of_ble_eq_true rfl) dX7_init_112 rfl (fun cs r => ?_)
  subst r
  refine GW.iinc (v := 4) dX7_init_115 rfl (by decide) (by decide) rfl ?_
  refine GW.goto (q := 94) dX7_init_118 (by decide) ?_
  refine GW.iload_n (i := 1) dX7_init_94 rfl rfl rfl ?_
  refine GW.gets hE sl_FIRST dX7_init_95 rfl ?_
  refine GW.slen (v := 4) hE rfl dX7_init_98 rfl ?_
  refine GW.icmp_ge (tgt := 121) dX7_init_99 (by decide) rfl (fun _ => ?_) (fun c => absurd (by decide) c)
  refine GW.vret rfl dX7_init_121 (by omega) (by omega) ?_
  exact ⟨q5, q16, q27, q38, q49, q60, q71, a76, f9, f20, f31, f42, f53, f64, rfl⟩
