/-! the constructors -/
section CTOR
variable {Y : gw_D} {h N : Nat} {x y v : Int32}
theorem I_row (hx : x = nI N) (hN : N ≤ 100000) : gw_I Y 1 1 N mX3_init [.ref h, .int x] [(h, .inr (3, [.null]))] (fun cs => ∃ a : Nat, cs = [(h, .inr (3, [.ref a])), (a, .inl (Y.2.2.1, N, .inl (fun _ => 0)))]) := by
  intro B
  refine gw_M.of (by decide +kernel) rfl (Nat.le_of_ble_eq_true rfl) rfl ?_
  refine GW.aload_n (i := 0) dX3_init_0 rfl rfl rfl ?_
  refine GW.objInit oi_X3 oi_i oi_c (by omega) (Nat.le_of_ble_eq_true rfl) dX3_init_1 rfl ?_
  refine GW.aload_n (i := 0) dX3_init_4 rfl rfl rfl ?_
  refine GW.iload_n (i := 1) dX3_init_5 rfl rfl rfl ?_
  refine GW.iconst (v := 0) dX3_init_6 (by decide) rfl ?_
  refine GW.max mx_l mx_s mx_i mx_c (by omega) (Nat.le_of_ble_eq_true rfl) (by omega) (by omega) dX3_init_7 rfl ?_
  refine GW.newiT (N := N) ac_i hN (by rw [hx]; exact if_neg (nI_pos (by omega))) (by omega) (by omega) dX3_init_10 rfl (fun a => ?_)
  refine GW.put gX3_15 rfl rfl rfl (Nat.le_of_ble_eq_true rfl) dX3_init_12 rfl ?_
  refine GW.vret rfl dX3_init_15 (by omega) (by omega) ?_
  exact ⟨_, rfl, a, rfl⟩
theorem I_put {r a i : Nat} {f : Nat → Int32} (hx : x = nI i) (hi : i < N) (hN : N ≤ 100000) : gw_I Y 0 0 0 mX3_put [.ref r, .int x, .int v] [(r, .inr (3, [.ref a])), (a, .inl (Y.2.2.1, N, .inl f))] (fun cs => cs = [(r, .inr (3, [.ref a])), (a, .inl (Y.2.2.1, N, .inl (upd f i v)))]) := by
  subst hx
  intro B
  refine gw_M.of (by decide +kernel) rfl (Nat.le_of_ble_eq_true rfl) rfl ?_
  refine GW.iload_n (i := 1) dX3_put_0 rfl rfl rfl ?_
  refine GW.if_lt (tgt := 20) dX3_put_1 (by decide) rfl (fun c => absurd c (nI_pos (by omega))) (fun _ => ?_)
  refine GW.iload_n (i := 1) dX3_put_4 rfl rfl rfl ?_
  refine GW.aload_n (i := 0) dX3_put_5 rfl rfl rfl ?_
  refine GW.get fX3_15 rfl dX3_put_6 rfl ?_
  refine GW.alen rfl dX3_put_9 rfl ?_
  refine GW.icmp_ge (tgt := 20) dX3_put_10 (by decide) rfl (fun c => absurd c (nI_ge hi (by omega))) (fun _ => ?_)
  refine GW.aload_n (i := 0) dX3_put_13 rfl rfl rfl ?_
  refine GW.get fX3_15 rfl dX3_put_14 rfl ?_
  refine GW.iload_n (i := 1) dX3_put_17 rfl rfl rfl ?_
  refine GW.iload_n (i := 2) dX3_put_18 rfl rfl rfl ?_
  refine GW.iast (vp_in_nI hi (by omega)) dX3_put_19 rfl ?_
  rw [nI_clamp (by omega)]
  refine GW.vret rfl dX3_put_20 (by omega) (by omega) ?_
  exact ⟨_, rfl, rfl⟩
theorem GW.iastN {d mc ms k n a i M pc q : Nat} {me : sw_Me} {E : State → Prop} {R : va_W → Prop} {w0 B T : va_W} {L st : List Value} {f : Nat → Int32} {z : Nat × va_E} (hx : x = nI i) (hi : i < M ∧ M ≤ 100000) (hd : decode me.2.1 pc = .ok (.iastore, 1)) (hq : pc + 1 = q) (kk : GW Y d mc ms me E R w0 k n q L st (B ++ z :: (a, .inl (Y.2.2.1, M, .inl (upd f i y))) :: T)) : GW Y d mc ms me E R w0 k n pc L (.int y :: .int x :: .ref a :: st) (B ++ z :: (a, .inl (Y.2.2.1, M, .inl f)) :: T) := by
  subst hx
  refine GW.iast (vp_in_nI hi.1 (by omega)) hd hq ?_
  rw [nI_clamp (by omega)]
  exact kk
theorem GW.putS {d mc ms k n pc q idx ci j h : Nat} {me : sw_Me} {E : State → Prop} {R : va_W → Prop} {w0 B T : va_W} {L st : List Value} {fs : List Value} {fs' : List Value} {fin : Bool} {ty : FieldType} {v : Value} (hF : gw_FP me.1.cls idx ci j fin ty) (hin : me.1.name = "<init>") (hv : narrow ty v = v) (hfit : fits ty v = true) (hj : j < fs.length) (hs : fs.set j v = fs') (hd : decode me.2.1 pc = .ok (.putfield idx, 3)) (hq : pc + 3 = q) (kk : GW Y d mc ms me E R w0 k n q L st (B ++ (h, .inr (ci, fs')) :: T)) : GW Y d mc ms me E R w0 k n pc L (v :: .ref h :: st) (B ++ (h, .inr (ci, fs)) :: T) :=
  GW.put hF hin hv hfit hj hd hq (by rw [hs]; exact kk)
theorem GW.ws {d mc ms k n pc : Nat} {me : sw_Me} {E : State → Prop} {R : va_W → Prop} {w0 ws ws' : va_W} {L st : List Value} (h : ws = ws') (kk : GW Y d mc ms me E R w0 k n pc L st ws') : GW Y d mc ms me E R w0 k n pc L st ws := h ▸ kk
theorem GW.newiT2 {d mc ms k n M pc q : Nat} {me : sw_Me} {E : State → Prop} {R : va_W → Prop} {w0 B T : va_W} {L st : List Value} {z z2 : Nat × va_E} (harr : Cond.arrayClass .int ∈ sw_W) (hN : M ≤ 100000) (hx0 : x = nI M) (hk : k + 1 ≤ mc) (hn : n + M ≤ ms) (hd : decode me.2.1 pc = .ok (.newarray .int, 2)) (hq : pc + 2 = q) (kk : ∀ a, GW Y d mc ms me E R w0 (k + 1) (n + M) q L (.ref a :: st) (B ++ z :: z2 :: (T ++ [(a, .inl (Y.2.2.1, M, .inl (fun _ => 0)))]))) : GW Y d mc ms me E R w0 k n pc L (.int x :: st) (B ++ z :: z2 :: T) :=
  GW.newi harr hN hx0 hk hn hd hq (fun a => by rw [show (B ++ z :: z2 :: T) ++ [(a, (.inl (Y.2.2.1, M, .inl (fun _ => 0)) : va_E))] = B ++ z :: z2 :: (T ++ [(a, .inl (Y.2.2.1, M, .inl (fun _ => 0)))]) by simp]; exact kk a)
theorem GW.newzT2 {d mc ms k n M pc q : Nat} {me : sw_Me} {E : State → Prop} {R : va_W → Prop} {w0 B T : va_W} {L st : List Value} {z z2 : Nat × va_E} (harr : Cond.arrayClass .boolean ∈ sw_W) (hN : M ≤ 100000) (hx0 : x = nI M) (hk : k + 1 ≤ mc) (hn : n + M ≤ ms) (hd : decode me.2.1 pc = .ok (.newarray .boolean, 2)) (hq : pc + 2 = q) (kk : ∀ a, GW Y d mc ms me E R w0 (k + 1) (n + M) q L (.ref a :: st) (B ++ z :: z2 :: (T ++ [(a, .inl (Y.2.2.2, M, .inl (fun _ => 0)))]))) : GW Y d mc ms me E R w0 k n pc L (.int x :: st) (B ++ z :: z2 :: T) :=
  GW.newz harr hN hx0 hk hn hd hq (fun a => by rw [show (B ++ z :: z2 :: T) ++ [(a, (.inl (Y.2.2.2, M, .inl (fun _ => 0)) : va_E))] = B ++ z :: z2 :: (T ++ [(a, .inl (Y.2.2.2, M, .inl (fun _ => 0)))]) by simp]; exact kk a)
def cC5 (Y : gw_D) (h : Nat) (f : Nat → Nat) : va_W := [(h, .inr (5, [.int 0, .int 12, .int 144, .int 0, .int 0, .int 0, .ref (f 0), .ref (f 2), .ref (f 4), .ref (f 6), .ref (f 8), .ref (f 10), .ref (f 12)])),
  (f 0, .inr (3, [.ref (f 1)])),
  (f 1, .inl (Y.2.2.1, 30, .inl (fun _ => 0))),
  (f 2, .inr (3, [.ref (f 3)])),
  (f 3, .inl (Y.2.2.1, 30, .inl (fun _ => 0))),
  (f 4, .inr (3, [.ref (f 5)])),
  (f 5, .inl (Y.2.2.1, 30, .inl (fun _ => 0))),
  (f 6, .inr (3, [.ref (f 7)])),
  (f 7, .inl (Y.2.2.1, 576, .inl (fun _ => 0))),
  (f 8, .inr (3, [.ref (f 9)])),
  (f 9, .inl (Y.2.2.1, 576, .inl (fun _ => 0))),
  (f 10, .inr (3, [.ref (f 11)])),
  (f 11, .inl (Y.2.2.1, 576, .inl (fun _ => 0))),
  (f 12, .inr (3, [.ref (f 13)])),
  (f 13, .inl (Y.2.2.1, 576, .inl (fun _ => 0)))]
theorem I_X5 : gw_I Y 2 14 2401 mX5_init [.ref h] [(h, .inr (5, [.int 0, .int 0, .int 0, .int 0, .int 0, .int 0, .null, .null, .null, .null, .null, .null, .null]))] (fun cs => ∃ f : Nat → Nat, cs = cC5 Y h f) := by
  intro B
  refine gw_M.of (by decide +kernel) rfl (Nat.le_of_ble_eq_true rfl) rfl ?_
  refine GW.aload_n (i := 0) dX5_init_0 rfl rfl rfl ?_
  refine GW.objInit oi_X5 oi_i oi_c (by omega) (Nat.le_of_ble_eq_true rfl) dX5_init_1 rfl ?_
  refine GW.aload_n (i := 0) dX5_init_4 rfl rfl rfl ?_
  refine GW.iconst (v := 0) dX5_init_5 (by decide) rfl ?_
  refine GW.putS (fs' := [.int 0, .int 0, .int 0, .int 0, .int 0, .int 0, .null, .null, .null, .null, .null, .null, .null]) gX5_9 rfl rfl rfl (Nat.le_of_ble_eq_true rfl) rfl dX5_init_6 rfl ?_
  refine GW.aload_n (i := 0) dX5_init_9 rfl rfl rfl ?_
  refine GW.bipush (v := 12) dX5_init_10 (by decide) rfl ?_
  refine GW.putS (fs' := [.int 0, .int 12, .int 0, .int 0, .int 0, .int 0, .null, .null, .null, .null, .null, .null, .null]) gX5_15 rfl rfl rfl (Nat.le_of_ble_eq_true rfl) rfl dX5_init_12 rfl ?_
  refine GW.aload_n (i := 0) dX5_init_15 rfl rfl rfl ?_
  refine GW.sipush (v := 144) dX5_init_16 (by decide) rfl ?_
  refine GW.putS (fs' := [.int 0, .int 12, .int 144, .int 0, .int 0, .int 0, .null, .null, .null, .null, .null, .null, .null]) gX5_18 rfl rfl rfl (Nat.le_of_ble_eq_true rfl) rfl dX5_init_19 rfl ?_
  refine GW.aload_n (i := 0) dX5_init_22 rfl rfl rfl ?_
  refine GW.iconst (v := 0) dX5_init_23 (by decide) rfl ?_
  refine GW.putS (fs' := [.int 0, .int 12, .int 144, .int 0, .int 0, .int 0, .null, .null, .null, .null, .null, .null, .null]) gX5_21 rfl rfl rfl (Nat.le_of_ble_eq_true rfl) rfl dX5_init_24 rfl ?_
  refine GW.aload_n (i := 0) dX5_init_27 rfl rfl rfl ?_
  refine GW.iconst (v := 0) dX5_init_28 (by decide) rfl ?_
  refine GW.putS (fs' := [.int 0, .int 12, .int 144, .int 0, .int 0, .int 0, .null, .null, .null, .null, .null, .null, .null]) gX5_24 rfl rfl rfl (Nat.le_of_ble_eq_true rfl) rfl dX5_init_29 rfl ?_
  refine GW.aload_n (i := 0) dX5_init_32 rfl rfl rfl ?_
  refine GW.iconst (v := 0) dX5_init_33 (by decide) rfl ?_
  refine GW.putS (fs' := [.int 0, .int 12, .int 144, .int 0, .int 0, .int 0, .null, .null, .null, .null, .null, .null, .null]) gX5_27 rfl rfl rfl (Nat.le_of_ble_eq_true rfl) rfl dX5_init_34 rfl ?_
  refine GW.aload_n (i := 0) dX5_init_37 rfl rfl rfl ?_
  refine GW.newT (ci := 3) (fs := [.null]) rfl tyX3_ok (fun j hj => by rcases (show j = 0 by omega) with rfl; rfl) clX5_30 in_X3 iz_X3 (by omega) (by omega) dX5_init_38 rfl (fun q38 => ?_)
  refine GW.dup dX5_init_41 rfl rfl ?_
  refine GW.bipush (v := 30) dX5_init_42 (by decide) rfl ?_
  refine GW.callI (I_row (N := 30) rfl (by omega)) cX5_32 (by omega) (by omega) (by omega) rfl rfl (Nat.le_of_ble_eq_true rfl) dX5_init_44 rfl (fun cs44 r44 => ?_)
  obtain ⟨a44, rfl⟩ := r44
  refine GW.putS (fs' := [.int 0, .int 12, .int 144, .int 0, .int 0, .int 0, .ref q38, .null, .null, .null, .null, .null, .null]) gX5_35 rfl rfl rfl (Nat.le_of_ble_eq_true rfl) rfl dX5_init_47 rfl ?_
  refine GW.aload_n (i := 0) dX5_init_50 rfl rfl rfl ?_
  refine GW.newT (ci := 3) (fs := [.null]) rfl tyX3_ok (fun j hj => by rcases (show j = 0 by omega) with rfl; rfl) clX5_30 in_X3 iz_X3 (by omega) (by omega) dX5_init_51 rfl (fun q51 => ?_)
  refine GW.dup dX5_init_54 rfl rfl ?_
  refine GW.bipush (v := 30) dX5_init_55 (by decide) rfl ?_
  refine GW.callI (I_row (N := 30) rfl (by omega)) cX5_32 (by omega) (by omega) (by omega) rfl rfl (Nat.le_of_ble_eq_true rfl) dX5_init_57 rfl (fun cs57 r57 => ?_)
  obtain ⟨a57, rfl⟩ := r57
  refine GW.putS (fs' := [.int 0, .int 12, .int 144, .int 0, .int 0, .int 0, .ref q38, .ref q51, .null, .null, .null, .null, .null]) gX5_39 rfl rfl rfl (Nat.le_of_ble_eq_true rfl) rfl dX5_init_60 rfl ?_
  refine GW.aload_n (i := 0) dX5_init_63 rfl rfl rfl ?_
  refine GW.newT (ci := 3) (fs := [.null]) rfl tyX3_ok (fun j hj => by rcases (show j = 0 by omega) with rfl; rfl) clX5_30 in_X3 iz_X3 (by omega) (by omega) dX5_init_64 rfl (fun q64 => ?_)
  refine GW.dup dX5_init_67 rfl rfl ?_
  refine GW.bipush (v := 30) dX5_init_68 (by decide) rfl ?_
  refine GW.callI (I_row (N := 30) rfl (by omega)) cX5_32 (by omega) (by omega) (by omega) rfl rfl (Nat.le_of_ble_eq_true rfl) dX5_init_70 rfl (fun cs70 r70 => ?_)
  obtain ⟨a70, rfl⟩ := r70
  refine GW.putS (fs' := [.int 0, .int 12, .int 144, .int 0, .int 0, .int 0, .ref q38, .ref q51, .ref q64, .null, .null, .null, .null]) gX5_42 rfl rfl rfl (Nat.le_of_ble_eq_true rfl) rfl dX5_init_73 rfl ?_
  refine GW.aload_n (i := 0) dX5_init_76 rfl rfl rfl ?_
  refine GW.newT (ci := 3) (fs := [.null]) rfl tyX3_ok (fun j hj => by rcases (show j = 0 by omega) with rfl; rfl) clX5_30 in_X3 iz_X3 (by omega) (by omega) dX5_init_77 rfl (fun q77 => ?_)
  refine GW.dup dX5_init_80 rfl rfl ?_
  refine GW.sipush (v := 576) dX5_init_81 (by decide) rfl ?_
  refine GW.callI (I_row (N := 576) rfl (by omega)) cX5_32 (by omega) (by omega) (by omega) rfl rfl (Nat.le_of_ble_eq_true rfl) dX5_init_84 rfl (fun cs84 r84 => ?_)
  obtain ⟨a84, rfl⟩ := r84
  refine GW.putS (fs' := [.int 0, .int 12, .int 144, .int 0, .int 0, .int 0, .ref q38, .ref q51, .ref q64, .ref q77, .null, .null, .null]) gX5_45 rfl rfl rfl (Nat.le_of_ble_eq_true rfl) rfl dX5_init_87 rfl ?_
  refine GW.aload_n (i := 0) dX5_init_90 rfl rfl rfl ?_
  refine GW.newT (ci := 3) (fs := [.null]) rfl tyX3_ok (fun j hj => by rcases (show j = 0 by omega) with rfl; rfl) clX5_30 in_X3 iz_X3 (by omega) (by omega) dX5_init_91 rfl (fun q91 => ?_)
  refine GW.dup dX5_init_94 rfl rfl ?_
  refine GW.sipush (v := 576) dX5_init_95 (by decide) rfl ?_
  refine GW.callI (I_row (N := 576) rfl (by omega)) cX5_32 (by omega) (by omega) (by omega) rfl rfl (Nat.le_of_ble_eq_true rfl) dX5_init_98 rfl (fun cs98 r98 => ?_)
  obtain ⟨a98, rfl⟩ := r98
  refine GW.putS (fs' := [.int 0, .int 12, .int 144, .int 0, .int 0, .int 0, .ref q38, .ref q51, .ref q64, .ref q77, .ref q91, .null, .null]) gX5_48 rfl rfl rfl (Nat.le_of_ble_eq_true rfl) rfl dX5_init_101 rfl ?_
  refine GW.aload_n (i := 0) dX5_init_104 rfl rfl rfl ?_
  refine GW.newT (ci := 3) (fs := [.null]) rfl tyX3_ok (fun j hj => by rcases (show j = 0 by omega) with rfl; rfl) clX5_30 in_X3 iz_X3 (by omega) (by omega) dX5_init_105 rfl (fun q105 => ?_)
  refine GW.dup dX5_init_108 rfl rfl ?_
  refine GW.sipush (v := 576) dX5_init_109 (by decide) rfl ?_
  refine GW.callI (I_row (N := 576) rfl (by omega)) cX5_32 (by omega) (by omega) (by omega) rfl rfl (Nat.le_of_ble_eq_true rfl) dX5_init_112 rfl (fun cs112 r112 => ?_)
  obtain ⟨a112, rfl⟩ := r112
  refine GW.putS (fs' := [.int 0, .int 12, .int 144, .int 0, .int 0, .int 0, .ref q38, .ref q51, .ref q64, .ref q77, .ref q91, .ref q105, .null]) gX5_51 rfl rfl rfl (Nat.le_of_ble_eq_true rfl) rfl dX5_init_115 rfl ?_
  refine GW.aload_n (i := 0) dX5_init_118 rfl rfl rfl ?_
  refine GW.newT (ci := 3) (fs := [.null]) rfl tyX3_ok (fun j hj => by rcases (show j = 0 by omega) with rfl; rfl) clX5_30 in_X3 iz_X3 (by omega) (by omega) dX5_init_119 rfl (fun q119 => ?_)
  refine GW.dup dX5_init_122 rfl rfl ?_
  refine GW.sipush (v := 576) dX5_init_123 (by decide) rfl ?_
  refine GW.callI (I_row (N := 576) rfl (by omega)) cX5_32 (by omega) (by omega) (by omega) rfl rfl (Nat.le_of_ble_eq_true rfl) dX5_init_126 rfl (fun cs126 r126 => ?_)
  obtain ⟨a126, rfl⟩ := r126
  refine GW.putS (fs' := [.int 0, .int 12, .int 144, .int 0, .int 0, .int 0, .ref q38, .ref q51, .ref q64, .ref q77, .ref q91, .ref q105, .ref q119]) gX5_54 rfl rfl rfl (Nat.le_of_ble_eq_true rfl) rfl dX5_init_129 rfl ?_
  refine GW.vret rfl dX5_init_132 (by omega) (by omega) ?_
  exact ⟨_, rfl, fun j => [q38, a44, q51, a57, q64, a70, q77, a84, q91, a98, q105, a112, q119, a126].getD j 0, rfl⟩
def cC6 (Y : gw_D) (h : Nat) (f : Nat → Nat) : va_W := [(h, .inr (6, [.ref (f 0), .ref (f 2), .ref (f 4), .ref (f 6), .ref (f 8), .ref (f 10), .ref (f 12), .ref (f 14), .int 0])),
  (f 0, .inr (3, [.ref (f 1)])),
  (f 1, .inl (Y.2.2.1, 576, .inl (fun _ => 0))),
  (f 2, .inr (3, [.ref (f 3)])),
  (f 3, .inl (Y.2.2.1, 576, .inl (fun _ => 0))),
  (f 4, .inr (3, [.ref (f 5)])),
  (f 5, .inl (Y.2.2.1, 576, .inl (fun _ => 0))),
  (f 6, .inr (3, [.ref (f 7)])),
  (f 7, .inl (Y.2.2.1, 576, .inl (fun _ => 0))),
  (f 8, .inr (3, [.ref (f 9)])),
  (f 9, .inl (Y.2.2.1, 576, .inl (fun _ => 0))),
  (f 10, .inr (3, [.ref (f 11)])),
  (f 11, .inl (Y.2.2.1, 576, .inl (fun _ => 0))),
  (f 12, .inr (3, [.ref (f 13)])),
  (f 13, .inl (Y.2.2.1, 576, .inl (fun _ => 0))),
  (f 14, .inr (3, [.ref (f 15)])),
  (f 15, .inl (Y.2.2.1, 576, .inl (fun _ => 0)))]
theorem I_X6 : gw_I Y 2 16 4616 mX6_init [.ref h] [(h, .inr (6, [.null, .null, .null, .null, .null, .null, .null, .null, .int 0]))] (fun cs => ∃ f : Nat → Nat, cs = cC6 Y h f) := by
  intro B
  refine gw_M.of (by decide +kernel) rfl (Nat.le_of_ble_eq_true rfl) rfl ?_
  refine GW.aload_n (i := 0) dX6_init_0 rfl rfl rfl ?_
  refine GW.objInit oi_X6 oi_i oi_c (by omega) (Nat.le_of_ble_eq_true rfl) dX6_init_1 rfl ?_
  refine GW.aload_n (i := 0) dX6_init_4 rfl rfl rfl ?_
  refine GW.newT (ci := 3) (fs := [.null]) rfl tyX3_ok (fun j hj => by rcases (show j = 0 by omega) with rfl; rfl) clX6_9 in_X3 iz_X3 (by omega) (by omega) dX6_init_5 rfl (fun q5 => ?_)
  refine GW.dup dX6_init_8 rfl rfl ?_
  refine GW.sipush (v := 576) dX6_init_9 (by decide) rfl ?_
  refine GW.callI (I_row (N := 576) rfl (by omega)) cX6_11 (by omega) (by omega) (by omega) rfl rfl (Nat.le_of_ble_eq_true rfl) dX6_init_12 rfl (fun cs12 r12 => ?_)
  obtain ⟨a12, rfl⟩ := r12
  refine GW.putS (fs' := [.ref q5, .null, .null, .null, .null, .null, .null, .null, .int 0]) gX6_14 rfl rfl rfl (Nat.le_of_ble_eq_true rfl) rfl dX6_init_15 rfl ?_
  refine GW.aload_n (i := 0) dX6_init_18 rfl rfl rfl ?_
  refine GW.newT (ci := 3) (fs := [.null]) rfl tyX3_ok (fun j hj => by rcases (show j = 0 by omega) with rfl; rfl) clX6_9 in_X3 iz_X3 (by omega) (by omega) dX6_init_19 rfl (fun q19 => ?_)
  refine GW.dup dX6_init_22 rfl rfl ?_
  refine GW.sipush (v := 576) dX6_init_23 (by decide) rfl ?_
  refine GW.callI (I_row (N := 576) rfl (by omega)) cX6_11 (by omega) (by omega) (by omega) rfl rfl (Nat.le_of_ble_eq_true rfl) dX6_init_26 rfl (fun cs26 r26 => ?_)
  obtain ⟨a26, rfl⟩ := r26
  refine GW.putS (fs' := [.ref q5, .ref q19, .null, .null, .null, .null, .null, .null, .int 0]) gX6_20 rfl rfl rfl (Nat.le_of_ble_eq_true rfl) rfl dX6_init_29 rfl ?_
  refine GW.aload_n (i := 0) dX6_init_32 rfl rfl rfl ?_
  refine GW.newT (ci := 3) (fs := [.null]) rfl tyX3_ok (fun j hj => by rcases (show j = 0 by omega) with rfl; rfl) clX6_9 in_X3 iz_X3 (by omega) (by omega) dX6_init_33 rfl (fun q33 => ?_)
  refine GW.dup dX6_init_36 rfl rfl ?_
  refine GW.sipush (v := 576) dX6_init_37 (by decide) rfl ?_
  refine GW.callI (I_row (N := 576) rfl (by omega)) cX6_11 (by omega) (by omega) (by omega) rfl rfl (Nat.le_of_ble_eq_true rfl) dX6_init_40 rfl (fun cs40 r40 => ?_)
  obtain ⟨a40, rfl⟩ := r40
  refine GW.putS (fs' := [.ref q5, .ref q19, .ref q33, .null, .null, .null, .null, .null, .int 0]) gX6_23 rfl rfl rfl (Nat.le_of_ble_eq_true rfl) rfl dX6_init_43 rfl ?_
  refine GW.aload_n (i := 0) dX6_init_46 rfl rfl rfl ?_
  refine GW.newT (ci := 3) (fs := [.null]) rfl tyX3_ok (fun j hj => by rcases (show j = 0 by omega) with rfl; rfl) clX6_9 in_X3 iz_X3 (by omega) (by omega) dX6_init_47 rfl (fun q47 => ?_)
  refine GW.dup dX6_init_50 rfl rfl ?_
  refine GW.sipush (v := 576) dX6_init_51 (by decide) rfl ?_
  refine GW.callI (I_row (N := 576) rfl (by omega)) cX6_11 (by omega) (by omega) (by omega) rfl rfl (Nat.le_of_ble_eq_true rfl) dX6_init_54 rfl (fun cs54 r54 => ?_)
  obtain ⟨a54, rfl⟩ := r54
  refine GW.putS (fs' := [.ref q5, .ref q19, .ref q33, .ref q47, .null, .null, .null, .null, .int 0]) gX6_26 rfl rfl rfl (Nat.le_of_ble_eq_true rfl) rfl dX6_init_57 rfl ?_
  refine GW.aload_n (i := 0) dX6_init_60 rfl rfl rfl ?_
  refine GW.newT (ci := 3) (fs := [.null]) rfl tyX3_ok (fun j hj => by rcases (show j = 0 by omega) with rfl; rfl) clX6_9 in_X3 iz_X3 (by omega) (by omega) dX6_init_61 rfl (fun q61 => ?_)
  refine GW.dup dX6_init_64 rfl rfl ?_
  refine GW.sipush (v := 576) dX6_init_65 (by decide) rfl ?_
  refine GW.callI (I_row (N := 576) rfl (by omega)) cX6_11 (by omega) (by omega) (by omega) rfl rfl (Nat.le_of_ble_eq_true rfl) dX6_init_68 rfl (fun cs68 r68 => ?_)
  obtain ⟨a68, rfl⟩ := r68
  refine GW.putS (fs' := [.ref q5, .ref q19, .ref q33, .ref q47, .ref q61, .null, .null, .null, .int 0]) gX6_29 rfl rfl rfl (Nat.le_of_ble_eq_true rfl) rfl dX6_init_71 rfl ?_
  refine GW.aload_n (i := 0) dX6_init_74 rfl rfl rfl ?_
  refine GW.newT (ci := 3) (fs := [.null]) rfl tyX3_ok (fun j hj => by rcases (show j = 0 by omega) with rfl; rfl) clX6_9 in_X3 iz_X3 (by omega) (by omega) dX6_init_75 rfl (fun q75 => ?_)
  refine GW.dup dX6_init_78 rfl rfl ?_
  refine GW.sipush (v := 576) dX6_init_79 (by decide) rfl ?_
  refine GW.callI (I_row (N := 576) rfl (by omega)) cX6_11 (by omega) (by omega) (by omega) rfl rfl (Nat.le_of_ble_eq_true rfl) dX6_init_82 rfl (fun cs82 r82 => ?_)
  obtain ⟨a82, rfl⟩ := r82
  refine GW.putS (fs' := [.ref q5, .ref q19, .ref q33, .ref q47, .ref q61, .ref q75, .null, .null, .int 0]) gX6_32 rfl rfl rfl (Nat.le_of_ble_eq_true rfl) rfl dX6_init_85 rfl ?_
  refine GW.aload_n (i := 0) dX6_init_88 rfl rfl rfl ?_
  refine GW.newT (ci := 3) (fs := [.null]) rfl tyX3_ok (fun j hj => by rcases (show j = 0 by omega) with rfl; rfl) clX6_9 in_X3 iz_X3 (by omega) (by omega) dX6_init_89 rfl (fun q89 => ?_)
  refine GW.dup dX6_init_92 rfl rfl ?_
  refine GW.sipush (v := 576) dX6_init_93 (by decide) rfl ?_
  refine GW.callI (I_row (N := 576) rfl (by omega)) cX6_11 (by omega) (by omega) (by omega) rfl rfl (Nat.le_of_ble_eq_true rfl) dX6_init_96 rfl (fun cs96 r96 => ?_)
  obtain ⟨a96, rfl⟩ := r96
  refine GW.putS (fs' := [.ref q5, .ref q19, .ref q33, .ref q47, .ref q61, .ref q75, .ref q89, .null, .int 0]) gX6_35 rfl rfl rfl (Nat.le_of_ble_eq_true rfl) rfl dX6_init_99 rfl ?_
  refine GW.aload_n (i := 0) dX6_init_102 rfl rfl rfl ?_
  refine GW.newT (ci := 3) (fs := [.null]) rfl tyX3_ok (fun j hj => by rcases (show j = 0 by omega) with rfl; rfl) clX6_9 in_X3 iz_X3 (by omega) (by omega) dX6_init_103 rfl (fun q103 => ?_)
  refine GW.dup dX6_init_106 rfl rfl ?_
  refine GW.sipush (v := 576) dX6_init_107 (by decide) rfl ?_
  refine GW.callI (I_row (N := 576) rfl (by omega)) cX6_11 (by omega) (by omega) (by omega) rfl rfl (Nat.le_of_ble_eq_true rfl) dX6_init_110 rfl (fun cs110 r110 => ?_)
  obtain ⟨a110, rfl⟩ := r110
  refine GW.putS (fs' := [.ref q5, .ref q19, .ref q33, .ref q47, .ref q61, .ref q75, .ref q89, .ref q103, .int 0]) gX6_38 rfl rfl rfl (Nat.le_of_ble_eq_true rfl) rfl dX6_init_113 rfl ?_
  refine GW.aload_n (i := 0) dX6_init_116 rfl rfl rfl ?_
  refine GW.iconst (v := 0) dX6_init_117 (by decide) rfl ?_
  refine GW.putS (fs' := [.ref q5, .ref q19, .ref q33, .ref q47, .ref q61, .ref q75, .ref q89, .ref q103, .int 0]) gX6_41 rfl rfl rfl (Nat.le_of_ble_eq_true rfl) rfl dX6_init_118 rfl ?_
  refine GW.vret rfl dX6_init_121 (by omega) (by omega) ?_
  exact ⟨_, rfl, fun j => [q5, a12, q19, a26, q33, a40, q47, a54, q61, a68, q75, a82, q89, a96, q103, a110].getD j 0, rfl⟩
def cC2 (Y : gw_D) (h : Nat) (f : Nat → Nat) : va_W := [(h, .inr (2, [.ref (f 0), .ref (f 2), .ref (f 4), .int 0])),
  (f 0, .inr (3, [.ref (f 1)])),
  (f 1, .inl (Y.2.2.1, 576, .inl (fun _ => 0))),
  (f 2, .inr (3, [.ref (f 3)])),
  (f 3, .inl (Y.2.2.1, 576, .inl (fun _ => 0))),
  (f 4, .inr (3, [.ref (f 5)])),
  (f 5, .inl (Y.2.2.1, 576, .inl (fun _ => 0)))]
theorem I_X2 : gw_I Y 2 6 1731 mX2_init [.ref h] [(h, .inr (2, [.null, .null, .null, .int 0]))] (fun cs => ∃ f : Nat → Nat, cs = cC2 Y h f) := by
  intro B
  refine gw_M.of (by decide +kernel) rfl (Nat.le_of_ble_eq_true rfl) rfl ?_
  refine GW.aload_n (i := 0) dX2_init_0 rfl rfl rfl ?_
  refine GW.objInit oi_X2 oi_i oi_c (by omega) (Nat.le_of_ble_eq_true rfl) dX2_init_1 rfl ?_
  refine GW.aload_n (i := 0) dX2_init_4 rfl rfl rfl ?_
  refine GW.newT (ci := 3) (fs := [.null]) rfl tyX3_ok (fun j hj => by rcases (show j = 0 by omega) with rfl; rfl) clX2_9 in_X3 iz_X3 (by omega) (by omega) dX2_init_5 rfl (fun q5 => ?_)
  refine GW.dup dX2_init_8 rfl rfl ?_
  refine GW.sipush (v := 576) dX2_init_9 (by decide) rfl ?_
  refine GW.callI (I_row (N := 576) rfl (by omega)) cX2_11 (by omega) (by omega) (by omega) rfl rfl (Nat.le_of_ble_eq_true rfl) dX2_init_12 rfl (fun cs12 r12 => ?_)
  obtain ⟨a12, rfl⟩ := r12
  refine GW.putS (fs' := [.ref q5, .null, .null, .int 0]) gX2_14 rfl rfl rfl (Nat.le_of_ble_eq_true rfl) rfl dX2_init_15 rfl ?_
  refine GW.aload_n (i := 0) dX2_init_18 rfl rfl rfl ?_
  refine GW.newT (ci := 3) (fs := [.null]) rfl tyX3_ok (fun j hj => by rcases (show j = 0 by omega) with rfl; rfl) clX2_9 in_X3 iz_X3 (by omega) (by omega) dX2_init_19 rfl (fun q19 => ?_)
  refine GW.dup dX2_init_22 rfl rfl ?_
  refine GW.sipush (v := 576) dX2_init_23 (by decide) rfl ?_
  refine GW.callI (I_row (N := 576) rfl (by omega)) cX2_11 (by omega) (by omega) (by omega) rfl rfl (Nat.le_of_ble_eq_true rfl) dX2_init_26 rfl (fun cs26 r26 => ?_)
  obtain ⟨a26, rfl⟩ := r26
  refine GW.putS (fs' := [.ref q5, .ref q19, .null, .int 0]) gX2_20 rfl rfl rfl (Nat.le_of_ble_eq_true rfl) rfl dX2_init_29 rfl ?_
  refine GW.aload_n (i := 0) dX2_init_32 rfl rfl rfl ?_
  refine GW.newT (ci := 3) (fs := [.null]) rfl tyX3_ok (fun j hj => by rcases (show j = 0 by omega) with rfl; rfl) clX2_9 in_X3 iz_X3 (by omega) (by omega) dX2_init_33 rfl (fun q33 => ?_)
  refine GW.dup dX2_init_36 rfl rfl ?_
  refine GW.sipush (v := 576) dX2_init_37 (by decide) rfl ?_
  refine GW.callI (I_row (N := 576) rfl (by omega)) cX2_11 (by omega) (by omega) (by omega) rfl rfl (Nat.le_of_ble_eq_true rfl) dX2_init_40 rfl (fun cs40 r40 => ?_)
  obtain ⟨a40, rfl⟩ := r40
  refine GW.putS (fs' := [.ref q5, .ref q19, .ref q33, .int 0]) gX2_23 rfl rfl rfl (Nat.le_of_ble_eq_true rfl) rfl dX2_init_43 rfl ?_
  refine GW.aload_n (i := 0) dX2_init_46 rfl rfl rfl ?_
  refine GW.iconst (v := 0) dX2_init_47 (by decide) rfl ?_
  refine GW.putS (fs' := [.ref q5, .ref q19, .ref q33, .int 0]) gX2_26 rfl rfl rfl (Nat.le_of_ble_eq_true rfl) rfl dX2_init_48 rfl ?_
  refine GW.vret rfl dX2_init_51 (by omega) (by omega) ?_
  exact ⟨_, rfl, fun j => [q5, a12, q19, a26, q33, a40].getD j 0, rfl⟩
def cC4 (Y : gw_D) (h : Nat) (f : Nat → Nat) : va_W := [(h, .inr (4, [.ref (f 0), .ref (f 2), .int 0])),
  (f 0, .inr (3, [.ref (f 1)])),
  (f 1, .inl (Y.2.2.1, 576, .inl (fun _ => 0))),
  (f 2, .inr (3, [.ref (f 3)])),
  (f 3, .inl (Y.2.2.1, 6, .inl (fun _ => 0)))]
theorem I_X4 : gw_I Y 2 4 584 mX4_init [.ref h] [(h, .inr (4, [.null, .null, .int 0]))] (fun cs => ∃ f : Nat → Nat, cs = cC4 Y h f) := by
  intro B
  refine gw_M.of (by decide +kernel) rfl (Nat.le_of_ble_eq_true rfl) rfl ?_
  refine GW.aload_n (i := 0) dX4_init_0 rfl rfl rfl ?_
  refine GW.objInit oi_X4 oi_i oi_c (by omega) (Nat.le_of_ble_eq_true rfl) dX4_init_1 rfl ?_
  refine GW.aload_n (i := 0) dX4_init_4 rfl rfl rfl ?_
  refine GW.newT (ci := 3) (fs := [.null]) rfl tyX3_ok (fun j hj => by rcases (show j = 0 by omega) with rfl; rfl) clX4_9 in_X3 iz_X3 (by omega) (by omega) dX4_init_5 rfl (fun q5 => ?_)
  refine GW.dup dX4_init_8 rfl rfl ?_
  refine GW.sipush (v := 576) dX4_init_9 (by decide) rfl ?_
  refine GW.callI (I_row (N := 576) rfl (by omega)) cX4_11 (by omega) (by omega) (by omega) rfl rfl (Nat.le_of_ble_eq_true rfl) dX4_init_12 rfl (fun cs12 r12 => ?_)
  obtain ⟨a12, rfl⟩ := r12
  refine GW.putS (fs' := [.ref q5, .null, .int 0]) gX4_14 rfl rfl rfl (Nat.le_of_ble_eq_true rfl) rfl dX4_init_15 rfl ?_
  refine GW.aload_n (i := 0) dX4_init_18 rfl rfl rfl ?_
  refine GW.newT (ci := 3) (fs := [.null]) rfl tyX3_ok (fun j hj => by rcases (show j = 0 by omega) with rfl; rfl) clX4_9 in_X3 iz_X3 (by omega) (by omega) dX4_init_19 rfl (fun q19 => ?_)
  refine GW.dup dX4_init_22 rfl rfl ?_
  refine GW.bipush (v := 6) dX4_init_23 (by decide) rfl ?_
  refine GW.callI (I_row (N := 6) rfl (by omega)) cX4_11 (by omega) (by omega) (by omega) rfl rfl (Nat.le_of_ble_eq_true rfl) dX4_init_25 rfl (fun cs25 r25 => ?_)
  obtain ⟨a25, rfl⟩ := r25
  refine GW.putS (fs' := [.ref q5, .ref q19, .int 0]) gX4_20 rfl rfl rfl (Nat.le_of_ble_eq_true rfl) rfl dX4_init_28 rfl ?_
  refine GW.aload_n (i := 0) dX4_init_31 rfl rfl rfl ?_
  refine GW.iconst (v := 0) dX4_init_32 (by decide) rfl ?_
  refine GW.putS (fs' := [.ref q5, .ref q19, .int 0]) gX4_23 rfl rfl rfl (Nat.le_of_ble_eq_true rfl) rfl dX4_init_33 rfl ?_
  refine GW.vret rfl dX4_init_36 (by omega) (by omega) ?_
  exact ⟨_, rfl, fun j => [q5, a12, q19, a25].getD j 0, rfl⟩
def cC1 (Y : gw_D) (h : Nat) (f : Nat → Nat) : va_W := [(h, .inr (1, [.ref (f 0), .ref (f 2), .ref (f 4), .ref (f 6), .int 0, .int 0, .int 0, .int 0])),
  (f 0, .inr (3, [.ref (f 1)])),
  (f 1, .inl (Y.2.2.1, 3456, .inl (fun _ => 0))),
  (f 2, .inr (3, [.ref (f 3)])),
  (f 3, .inl (Y.2.2.1, 576, .inl (fun _ => 0))),
  (f 4, .inr (3, [.ref (f 5)])),
  (f 5, .inl (Y.2.2.1, 6, .inl (fun _ => 0))),
  (f 6, .inr (3, [.ref (f 7)])),
  (f 7, .inl (Y.2.2.1, 12, .inl (fun _ => 0)))]
theorem I_X1 : gw_I Y 2 8 4054 mX1_init [.ref h] [(h, .inr (1, [.null, .null, .null, .null, .int 0, .int 0, .int 0, .int 0]))] (fun cs => ∃ f : Nat → Nat, cs = cC1 Y h f) := by
  intro B
  refine gw_M.of (by decide +kernel) rfl (Nat.le_of_ble_eq_true rfl) rfl ?_
  refine GW.aload_n (i := 0) dX1_init_0 rfl rfl rfl ?_
  refine GW.objInit oi_X1 oi_i oi_c (by omega) (Nat.le_of_ble_eq_true rfl) dX1_init_1 rfl ?_
  refine GW.aload_n (i := 0) dX1_init_4 rfl rfl rfl ?_
  refine GW.newT (ci := 3) (fs := [.null]) rfl tyX3_ok (fun j hj => by rcases (show j = 0 by omega) with rfl; rfl) clX1_9 in_X3 iz_X3 (by omega) (by omega) dX1_init_5 rfl (fun q5 => ?_)
  refine GW.dup dX1_init_8 rfl rfl ?_
  refine GW.sipush (v := 3456) dX1_init_9 (by decide) rfl ?_
  refine GW.callI (I_row (N := 3456) rfl (by omega)) cX1_11 (by omega) (by omega) (by omega) rfl rfl (Nat.le_of_ble_eq_true rfl) dX1_init_12 rfl (fun cs12 r12 => ?_)
  obtain ⟨a12, rfl⟩ := r12
  refine GW.putS (fs' := [.ref q5, .null, .null, .null, .int 0, .int 0, .int 0, .int 0]) gX1_14 rfl rfl rfl (Nat.le_of_ble_eq_true rfl) rfl dX1_init_15 rfl ?_
  refine GW.aload_n (i := 0) dX1_init_18 rfl rfl rfl ?_
  refine GW.newT (ci := 3) (fs := [.null]) rfl tyX3_ok (fun j hj => by rcases (show j = 0 by omega) with rfl; rfl) clX1_9 in_X3 iz_X3 (by omega) (by omega) dX1_init_19 rfl (fun q19 => ?_)
  refine GW.dup dX1_init_22 rfl rfl ?_
  refine GW.sipush (v := 576) dX1_init_23 (by decide) rfl ?_
  refine GW.callI (I_row (N := 576) rfl (by omega)) cX1_11 (by omega) (by omega) (by omega) rfl rfl (Nat.le_of_ble_eq_true rfl) dX1_init_26 rfl (fun cs26 r26 => ?_)
  obtain ⟨a26, rfl⟩ := r26
  refine GW.putS (fs' := [.ref q5, .ref q19, .null, .null, .int 0, .int 0, .int 0, .int 0]) gX1_20 rfl rfl rfl (Nat.le_of_ble_eq_true rfl) rfl dX1_init_29 rfl ?_
  refine GW.aload_n (i := 0) dX1_init_32 rfl rfl rfl ?_
  refine GW.newT (ci := 3) (fs := [.null]) rfl tyX3_ok (fun j hj => by rcases (show j = 0 by omega) with rfl; rfl) clX1_9 in_X3 iz_X3 (by omega) (by omega) dX1_init_33 rfl (fun q33 => ?_)
  refine GW.dup dX1_init_36 rfl rfl ?_
  refine GW.bipush (v := 6) dX1_init_37 (by decide) rfl ?_
  refine GW.callI (I_row (N := 6) rfl (by omega)) cX1_11 (by omega) (by omega) (by omega) rfl rfl (Nat.le_of_ble_eq_true rfl) dX1_init_39 rfl (fun cs39 r39 => ?_)
  obtain ⟨a39, rfl⟩ := r39
  refine GW.putS (fs' := [.ref q5, .ref q19, .ref q33, .null, .int 0, .int 0, .int 0, .int 0]) gX1_23 rfl rfl rfl (Nat.le_of_ble_eq_true rfl) rfl dX1_init_42 rfl ?_
  refine GW.aload_n (i := 0) dX1_init_45 rfl rfl rfl ?_
  refine GW.newT (ci := 3) (fs := [.null]) rfl tyX3_ok (fun j hj => by rcases (show j = 0 by omega) with rfl; rfl) clX1_9 in_X3 iz_X3 (by omega) (by omega) dX1_init_46 rfl (fun q46 => ?_)
  refine GW.dup dX1_init_49 rfl rfl ?_
  refine GW.bipush (v := 12) dX1_init_50 (by decide) rfl ?_
  refine GW.callI (I_row (N := 12) rfl (by omega)) cX1_11 (by omega) (by omega) (by omega) rfl rfl (Nat.le_of_ble_eq_true rfl) dX1_init_52 rfl (fun cs52 r52 => ?_)
  obtain ⟨a52, rfl⟩ := r52
  refine GW.putS (fs' := [.ref q5, .ref q19, .ref q33, .ref q46, .int 0, .int 0, .int 0, .int 0]) gX1_26 rfl rfl rfl (Nat.le_of_ble_eq_true rfl) rfl dX1_init_55 rfl ?_
  refine GW.aload_n (i := 0) dX1_init_58 rfl rfl rfl ?_
  refine GW.iconst (v := 0) dX1_init_59 (by decide) rfl ?_
  refine GW.putS (fs' := [.ref q5, .ref q19, .ref q33, .ref q46, .int 0, .int 0, .int 0, .int 0]) gX1_29 rfl rfl rfl (Nat.le_of_ble_eq_true rfl) rfl dX1_init_60 rfl ?_
  refine GW.aload_n (i := 0) dX1_init_63 rfl rfl rfl ?_
  refine GW.iconst (v := 0) dX1_init_64 (by decide) rfl ?_
  refine GW.putS (fs' := [.ref q5, .ref q19, .ref q33, .ref q46, .int 0, .int 0, .int 0, .int 0]) gX1_33 rfl rfl rfl (Nat.le_of_ble_eq_true rfl) rfl dX1_init_65 rfl ?_
  refine GW.aload_n (i := 0) dX1_init_68 rfl rfl rfl ?_
  refine GW.iconst (v := 0) dX1_init_69 (by decide) rfl ?_
  refine GW.putS (fs' := [.ref q5, .ref q19, .ref q33, .ref q46, .int 0, .int 0, .int 0, .int 0]) gX1_36 rfl rfl rfl (Nat.le_of_ble_eq_true rfl) rfl dX1_init_70 rfl ?_
  refine GW.aload_n (i := 0) dX1_init_73 rfl rfl rfl ?_
  refine GW.iconst (v := 0) dX1_init_74 (by decide) rfl ?_
  refine GW.putS (fs' := [.ref q5, .ref q19, .ref q33, .ref q46, .int 0, .int 0, .int 0, .int 0]) gX1_39 rfl rfl rfl (Nat.le_of_ble_eq_true rfl) rfl dX1_init_75 rfl ?_
  refine GW.vret rfl dX1_init_78 (by omega) (by omega) ?_
  exact ⟨_, rfl, fun j => [q5, a12, q19, a26, q33, a39, q46, a52].getD j 0, rfl⟩
def cC0 (Y : gw_D) (h : Nat) (f : Nat → Nat) : va_W := [(h, .inr (0, [.ref (f 0), .int 0, .int 0])),
  (f 0, .inr (3, [.ref (f 1)])),
  (f 1, .inl (Y.2.2.1, 2308, .inl (fun _ => 0)))]
theorem I_X0 : gw_I Y 2 2 2309 mX0_init [.ref h] [(h, .inr (0, [.null, .int 0, .int 0]))] (fun cs => ∃ f : Nat → Nat, cs = cC0 Y h f) := by
  intro B
  refine gw_M.of (by decide +kernel) rfl (Nat.le_of_ble_eq_true rfl) rfl ?_
  refine GW.aload_n (i := 0) dX0_init_0 rfl rfl rfl ?_
  refine GW.objInit oi_X0 oi_i oi_c (by omega) (Nat.le_of_ble_eq_true rfl) dX0_init_1 rfl ?_
  refine GW.aload_n (i := 0) dX0_init_4 rfl rfl rfl ?_
  refine GW.newT (ci := 3) (fs := [.null]) rfl tyX3_ok (fun j hj => by rcases (show j = 0 by omega) with rfl; rfl) clX0_9 in_X3 iz_X3 (by omega) (by omega) dX0_init_5 rfl (fun q5 => ?_)
  refine GW.dup dX0_init_8 rfl rfl ?_
  refine GW.sipush (v := 2308) dX0_init_9 (by decide) rfl ?_
  refine GW.callI (I_row (N := 2308) rfl (by omega)) cX0_13 (by omega) (by omega) (by omega) rfl rfl (Nat.le_of_ble_eq_true rfl) dX0_init_12 rfl (fun cs12 r12 => ?_)
  obtain ⟨a12, rfl⟩ := r12
  refine GW.putS (fs' := [.ref q5, .int 0, .int 0]) gX0_16 rfl rfl rfl (Nat.le_of_ble_eq_true rfl) rfl dX0_init_15 rfl ?_
  refine GW.aload_n (i := 0) dX0_init_18 rfl rfl rfl ?_
  refine GW.iconst (v := 0) dX0_init_19 (by decide) rfl ?_
  refine GW.putS (fs' := [.ref q5, .int 0, .int 0]) gX0_20 rfl rfl rfl (Nat.le_of_ble_eq_true rfl) rfl dX0_init_20 rfl ?_
  refine GW.aload_n (i := 0) dX0_init_23 rfl rfl rfl ?_
  refine GW.iconst (v := 0) dX0_init_24 (by decide) rfl ?_
  refine GW.putS (fs' := [.ref q5, .int 0, .int 0]) gX0_24 rfl rfl rfl (Nat.le_of_ble_eq_true rfl) rfl dX0_init_25 rfl ?_
  refine GW.vret rfl dX0_init_28 (by omega) (by omega) ?_
  exact ⟨_, rfl, fun j => [q5, a12].getD j 0, rfl⟩
end CTOR
