/-! the constructors -/
section CTOR
variable {Y : gw_D} {h N : Nat} {x y v : Int32}
theorem I_row (hx : x = nI N) (hN : N ≤ 100000) : gw_I Y 1 1 N mX3_init [.ref h, .int x] [(h, .inr (3, [.null]))] (fun cs => ∃ a : Nat, cs = [(h, .inr (3, [.ref a])), (a, .inl (Y.2.2.1, N, .inl (fun _ => 0)))]) := by
  intro B
  refine gw_M.of (by decide +kernel) rfl (Nat.le_of_ble_eq_true rfl) rfl ?_
  refine GW.aload_n (i := 0) dX3_init_0 rfl rfl rfl ?_
  refine GW.objInit oi_X3 oi_i oi_c (by omega) (Nat.le_of_ble_eq_true rfl) dX3_init_1 rfl ?_
  refine GW.aload_n (i := 0) dX3_init_4 rfl rfl rfl ?_
  refine GW.iload_n (i := 1) dX3_init_5 rfl rfl rfl ?_
  refine GW.iconst (v := 0) dX3_init_6 (by decide) rfl ?_
  refine GW.max mx_l mx_s mx_i mx_c (by omega) (Nat.le_of_ble_eq_true rfl) (by omega) (by omega) dX3_init_7 rfl ?_
  refine GW.newiT (N := N) ac_i hN (by rw [hx]; exact if_neg (nI_pos (by omega))) (by omega) (by omega) dX3_init_10 rfl (fun a => ?_)
  refine GW.put gX3_15 rfl rfl rfl (Nat.le_of_ble_eq_true rfl) dX3_init_12 rfl ?_
  refine GW.vret rfl dX3_init_15 (by omega) (by omega) ?_
  exact ⟨_, rfl, a, rfl⟩
theorem I_put {r a i : Nat} {f : Nat → Int32} (hx : x = nI i) (hi : i < N) (hN : N ≤ 100000) : gw_I Y 0 0 0 mX3_put [.ref r, .int x, .int v] [(r, .inr (3, [.ref a])), (a, .inl (Y.2.2.1, N, .inl f))] (fun cs => cs = [(r, .inr (3, [.ref a])), (a, .inl (Y.2.2.1, N, .inl (upd f i v)))]) := by
  subst hx
  intro B
  refine gw_M.of (by decide +kernel) rfl (Nat.le_of_ble_eq_true rfl) rfl ?_
  refine GW.iload_n (i := 1) dX3_put_0 rfl rfl rfl ?_
  refine GW.if_lt (tgt := 20) dX3_put_1 (by decide) rfl (fun c => absurd c (nI_pos (by omega))) (fun _ => ?_)
  refine GW.iload_n (i := 1) dX3_put_4 rfl rfl rfl ?_
  refine GW.aload_n (i := 0) dX3_put_5 rfl rfl rfl ?_
  refine GW.get fX3_15 rfl dX3_put_6 rfl ?_
  refine GW.alen rfl dX3_put_9 rfl ?_
  refine GW.icmp_ge (tgt := 20) dX3_put_10 (by decide) rfl (fun c => absurd c (nI_ge hi (by omega))) (fun _ => ?_)
  refine GW.aload_n (i := 0) dX3_put_13 rfl rfl rfl ?_
  refine GW.get fX3_15 rfl dX3_put_14 rfl ?_
  refine GW.iload_n (i := 1) dX3_put_17 rfl rfl rfl ?_
  refine GW.iload_n (i := 2) dX3_put_18 rfl rfl rfl ?_
  refine GW.iast (vp_in_nI hi (by omega)) dX3_put_19 rfl ?_
  rw [nI_clamp (by omega)]
  refine GW.vret rfl dX3_put_20 (by omega) (by omega) ?_
  exact ⟨_, rfl, rfl⟩
theorem GW.iastN {d mc ms k n a i M pc q : Nat} {me : sw_Me} {E : State → Prop} {R : va_W → Prop} {w0 B T : va_W} {L st : List Value} {f : Nat → Int32} {z : Nat × va_E} (hx : x = nI i) (hi : i < M ∧ M ≤ 100000) (hd : decode me.2.1 pc = .ok (.iastore, 1)) (hq : pc + 1 = q) (kk : GW Y d mc ms me E R w0 k n q L st (B ++ z :: (a, .inl (Y.2.2.1, M, .inl (upd f i y))) :: T)) : GW Y d mc ms me E R w0 k n pc L (.int y :: .int x :: .ref a :: st) (B ++ z :: (a, .inl (Y.2.2.1, M, .inl f)) :: T) := by
  subst hx
  refine GW.iast (vp_in_nI hi.1 (by omega)) hd hq ?_
  rw [nI_clamp (by omega)]
  exact kk
def cC5 (Y : gw_D) (h : Nat) (f : Nat → Nat) : va_W := [(h, .inr (5, [.int 0, .int 12, .int 144, .int 0, .int 0, .int 0, .ref (f 0), .ref (f 2), .ref (f 4), .ref (f 6), .ref (f 8), .ref (f 10), .ref (f 12)])),
  (f 0, .inr (3, [.ref (f 1)])),
  (f 1, .inl (Y.2.2.1, 30, .inl (fun _ => 0))),
  (f 2, .inr (3, [.ref (f 3)])),
  (f 3, .inl (Y.2.2.1, 30, .inl (fun _ => 0))),
  (f 4, .inr (3, [.ref (f 5)])),
  (f 5, .inl (Y.2.2.1, 30, .inl (fun _ => 0))),
  (f 6, .inr (3, [.ref (f 7)])),
  (f 7, .inl (Y.2.2.1, 576, .inl (fun _ => 0))),
  (f 8, .inr (3, [.ref (f 9)])),
  (f 9, .inl (Y.2.2.1, 576, .inl (fun _ => 0))),
  (f 10, .inr (3, [.ref (f 11)])),
  (f 11, .inl (Y.2.2.1, 576, .inl (fun _ => 0))),
  (f 12, .inr (3, [.ref (f 13)])),
  (f 13, .inl (Y.2.2.1, 576, .inl (fun _ => 0)))]
theorem I_X5 : gw_I Y 2 14 2401 mX5_init [.ref h] [(h, .inr (5, [.int 0, .int 0, .int 0, .int 0, .int 0, .int 0, .null, .null, .null, .null, .null, .null, .null]))] (fun cs => ∃ f : Nat → Nat, cs = cC5 Y h f) := by
  intro B
  refine gw_M.of (by decide +kernel) rfl (Nat.le_of_ble_eq_true rfl) rfl ?_
  refine GW.aload_n (i := 0) dX5_init_0 rfl rfl rfl ?_
  refine GW.objInit oi_X5 oi_i oi_c (by omega) (Nat.le_of_ble_eq_true rfl) dX5_init_1 rfl ?_
  refine GW.aload_n (i := 0) dX5_init_4 rfl rfl rfl ?_
  refine GW.iconst (v := 0) dX5_init_5 (by decide) rfl ?_
  refine GW.put gX5_9 rfl rfl rfl (Nat.le_of_ble_eq_true rfl) dX5_init_6 rfl ?_
  refine GW.aload_n (i := 0) dX5_init_9 rfl rfl rfl ?_
  refine GW.bipush (v := 12) dX5_init_10 (by decide) rfl ?_
  refine GW.put gX5_15 rfl rfl rfl (Nat.le_of_ble_eq_true rfl) dX5_init_12 rfl ?_
  refine GW.aload_n (i := 0) dX5_init_15 rfl rfl rfl ?_
  refine GW.sipush (v := 144) dX5_init_16 (by decide) rfl ?_
  refine GW.put gX5_18 rfl rfl rfl (Nat.le_of_ble_eq_true rfl) dX5_init_19 rfl ?_
  refine GW.aload_n (i := 0) dX5_init_22 rfl rfl rfl ?_
  refine GW.iconst (v := 0) dX5_init_23 (by decide) rfl ?_
  refine GW.put gX5_21 rfl rfl rfl (Nat.le_of_ble_eq_true rfl) dX5_init_24 rfl ?_
  refine GW.aload_n (i := 0) dX5_init_27 rfl rfl rfl ?_
  refine GW.iconst (v := 0) dX5_init_28 (by decide) rfl ?_
  refine GW.put gX5_24 rfl rfl rfl (Nat.le_of_ble_eq_true rfl) dX5_init_29 rfl ?_
  refine GW.aload_n (i := 0) dX5_init_32 rfl rfl rfl ?_
  refine GW.iconst (v := 0) dX5_init_33 (by decide) rfl ?_
  refine GW.put gX5_27 rfl rfl rfl (Nat.le_of_ble_eq_true rfl) dX5_init_34 rfl ?_
  refine GW.aload_n (i := 0) dX5_init_37 rfl rfl rfl ?_
  refine GW.newT (ci := 3) (fs := [.null]) rfl tyX3_ok (fun j hj => by rcases (show j = 0 by omega) with rfl; rfl) clX5_30 in_X3 iz_X3 (by omega) (by omega) dX5_init_38 rfl (fun q38 => ?_)
  refine GW.dup dX5_init_41 rfl rfl ?_
  refine GW.bipush (v := 30) dX5_init_42 (by decide) rfl ?_
  refine GW.callI (I_row (N := 30) rfl (by omega)) cX5_32 (by omega) (by omega) (by omega) rfl rfl (Nat.le_of_ble_eq_true rfl) dX5_init_44 rfl (fun cs44 r44 => ?_)
  obtain ⟨a44, rfl⟩ := r44
  refine GW.put gX5_35 rfl rfl rfl (Nat.le_of_ble_eq_true rfl) dX5_init_47 rfl ?_
  refine GW.aload_n (i := 0) dX5_init_50 rfl rfl rfl ?_
  refine GW.newT (ci := 3) (fs := [.null]) rfl tyX3_ok (fun j hj => by rcases (show j = 0 by omega) with rfl; rfl) clX5_30 in_X3 iz_X3 (by omega) (by omega) dX5_init_51 rfl (fun q51 => ?_)
  refine GW.dup dX5_init_54 rfl rfl ?_
  refine GW.bipush (v := 30) dX5_init_55 (by decide) rfl ?_
  refine GW.callI (I_row (N := 30) rfl (by omega)) cX5_32 (by omega) (by omega) (by omega) rfl rfl (Nat.le_of_ble_eq_true rfl) dX5_init_57 rfl (fun cs57 r57 => ?_)
  obtain ⟨a57, rfl⟩ := r57
  refine GW.put gX5_39 rfl rfl rfl (Nat.le_of_ble_eq_true rfl) dX5_init_60 rfl ?_
  refine GW.aload_n (i := 0) dX5_init_63 rfl rfl rfl ?_
  refine GW.newT (ci := 3) (fs := [.null]) rfl tyX3_ok (fun j hj => by rcases (show j = 0 by omega) with rfl; rfl) clX5_30 in_X3 iz_X3 (by omega) (by omega) dX5_init_64 rfl (fun q64 => ?_)
  refine GW.dup dX5_init_67 rfl rfl ?_
  refine GW.bipush (v := 30) dX5_init_68 (by decide) rfl ?_
  refine GW.callI (I_row (N := 30) rfl (by omega)) cX5_32 (by omega) (by omega) (by omega) rfl rfl (Nat.le_of_ble_eq_true rfl) dX5_init_70 rfl (fun cs70 r70 => ?_)
  obtain ⟨a70, rfl⟩ := r70
  refine GW.put gX5_42 rfl rfl rfl (Nat.le_of_ble_eq_true rfl) dX5_init_73 rfl ?_
  refine GW.aload_n (i := 0) dX5_init_76 rfl rfl rfl ?_
  refine GW.newT (ci := 3) (fs := [.null]) rfl tyX3_ok (fun j hj => by rcases (show j = 0 by omega) with rfl; rfl) clX5_30 in_X3 iz_X3 (by omega) (by omega) dX5_init_77 rfl (fun q77 => ?_)
  refine GW.dup dX5_init_80 rfl rfl ?_
  refine GW.sipush (v := 576) dX5_init_81 (by decide) rfl ?_
  refine GW.callI (I_row (N := 576) rfl (by omega)) cX5_32 (by omega) (by omega) (by omega) rfl rfl (Nat.le_of_ble_eq_true rfl) dX5_init_84 rfl (fun cs84 r84 => ?_)
  obtain ⟨a84, rfl⟩ := r84
  refine GW.put gX5_45 rfl rfl rfl (Nat.le_of_ble_eq_true rfl) dX5_init_87 rfl ?_
  refine GW.aload_n (i := 0) dX5_init_90 rfl rfl rfl ?_
  refine GW.newT (ci := 3) (fs := [.null]) rfl tyX3_ok (fun j hj => by rcases (show j = 0 by omega) with rfl; rfl) clX5_30 in_X3 iz_X3 (by omega) (by omega) dX5_init_91 rfl (fun q91 => ?_)
  refine GW.dup dX5_init_94 rfl rfl ?_
  refine GW.sipush (v := 576) dX5_init_95 (by decide) rfl ?_
  refine GW.callI (I_row (N := 576) rfl (by omega)) cX5_32 (by omega) (by omega) (by omega) rfl rfl (Nat.le_of_ble_eq_true rfl) dX5_init_98 rfl (fun cs98 r98 => ?_)
  obtain ⟨a98, rfl⟩ := r98
  refine GW.put gX5_48 rfl rfl rfl (Nat.le_of_ble_eq_true rfl) dX5_init_101 rfl ?_
  refine GW.aload_n (i := 0) dX5_init_104 rfl rfl rfl ?_
  refine GW.newT (ci := 3) (fs := [.null]) rfl tyX3_ok (fun j hj => by rcases (show j = 0 by omega) with rfl; rfl) clX5_30 in_X3 iz_X3 (by omega) (by omega) dX5_init_105 rfl (fun q105 => ?_)
  refine GW.dup dX5_init_108 rfl rfl ?_
  refine GW.sipush (v := 576) dX5_init_109 (by decide) rfl ?_
  refine GW.callI (I_row (N := 576) rfl (by omega)) cX5_32 (by omega) (by omega) (by omega) rfl rfl (Nat.le_of_ble_eq_true rfl) dX5_init_112 rfl (fun cs112 r112 => ?_)
  obtain ⟨a112, rfl⟩ := r112
  refine GW.put gX5_51 rfl rfl rfl (Nat.le_of_ble_eq_true rfl) dX5_init_115 rfl ?_
  refine GW.aload_n (i := 0) dX5_init_118 rfl rfl rfl ?_
  refine GW.newT (ci := 3) (fs := [.null]) rfl tyX3_ok (fun j hj => by rcases (show j = 0 by omega) with rfl; rfl) clX5_30 in_X3 iz_X3 (by omega) (by omega) dX5_init_119 rfl (fun q119 => ?_)
  refine GW.dup dX5_init_122 rfl rfl ?_
  refine GW.sipush (v := 576) dX5_init_123 (by decide) rfl ?_
  refine GW.callI (I_row (N := 576) rfl (by omega)) cX5_32 (by omega) (by omega) (by omega) rfl rfl (Nat.le_of_ble_eq_true rfl) dX5_init_126 rfl (fun cs126 r126 => ?_)
  obtain ⟨a126, rfl⟩ := r126
  refine GW.put gX5_54 rfl rfl rfl (Nat.le_of_ble_eq_true rfl) dX5_init_129 rfl ?_
  refine GW.vret rfl dX5_init_132 (by omega) (by omega) ?_
  exact ⟨_, rfl, fun j => [q38, a44, q51, a57, q64, a70, q77, a84, q91, a98, q105, a112, q119, a126].getD j 0, rfl⟩
def cC6 (Y : gw_D) (h : Nat) (f : Nat → Nat) : va_W := [(h, .inr (6, [.ref (f 0), .ref (f 2), .ref (f 4), .ref (f 6), .ref (f 8), .ref (f 10), .ref (f 12), .ref (f 14), .int 0])),
  (f 0, .inr (3, [.ref (f 1)])),
  (f 1, .inl (Y.2.2.1, 576, .inl (fun _ => 0))),
  (f 2, .inr (3, [.ref (f 3)])),
  (f 3, .inl (Y.2.2.1, 576, .inl (fun _ => 0))),
  (f 4, .inr (3, [.ref (f 5)])),
  (f 5, .inl (Y.2.2.1, 576, .inl (fun _ => 0))),
  (f 6, .inr (3, [.ref (f 7)])),
  (f 7, .inl (Y.2.2.1, 576, .inl (fun _ => 0))),
  (f 8, .inr (3, [.ref (f 9)])),
  (f 9, .inl (Y.2.2.1, 576, .inl (fun _ => 0))),
  (f 10, .inr (3, [.ref (f 11)])),
  (f 11, .inl (Y.2.2.1, 576, .inl (fun _ => 0))),
  (f 12, .inr (3, [.ref (f 13)])),
  (f 13, .inl (Y.2.2.1, 576, .inl (fun _ => 0))),
  (f 14, .inr (3, [.ref (f 15)])),
  (f 15, .inl (Y.2.2.1, 576, .inl (fun _ => 0)))]
theorem I_X6 : gw_I Y 2 16 4616 mX6_init [.ref h] [(h, .inr (6, [.null, .null, .null, .null, .null, .null, .null, .null, .int 0]))] (fun cs => ∃ f : Nat → Nat, cs = cC6 Y h f) := by
  intro B
  refine gw_M.of (by decide +kernel) rfl (Nat.le_of_ble_eq_true rfl) rfl ?_
  refine GW.aload_n (i := 0) dX6_init_0 rfl rfl rfl ?_
  refine GW.objInit oi_X6 oi_i oi_c (by omega) (Nat.le_of_ble_eq_true rfl) dX6_init_1 rfl ?_
  refine GW.aload_n (i := 0) dX6_init_4 rfl rfl rfl ?_
  refine GW.newT (ci := 3) (fs := [.null]) rfl tyX3_ok (fun j hj => by rcases (show j = 0 by omega) with rfl; rfl) clX6_9 in_X3 iz_X3 (by omega) (by omega) dX6_init_5 rfl (fun q5 => ?_)
  refine GW.dup dX6_init_8 rfl rfl ?_
  refine GW.sipush (v := 576) dX6_init_9 (by decide) rfl ?_
  refine GW.callI (I_row (N := 576) rfl (by omega)) cX6_11 (by omega) (by omega) (by omega) rfl rfl (Nat.le_of_ble_eq_true rfl) dX6_init_12 rfl (fun cs12 r12 => ?_)
  obtain ⟨a12, rfl⟩ := r12
  refine GW.put gX6_14 rfl rfl rfl (Nat.le_of_ble_eq_true rfl) dX6_init_15 rfl ?_
  refine GW.aload_n (i := 0) dX6_init_18 rfl rfl rfl ?_
  refine GW.newT (ci := 3) (fs := [.null]) rfl tyX3_ok (fun j hj => by rcases (show j = 0 by omega) with rfl; rfl) clX6_9 in_X3 iz_X3 (by omega) (by omega) dX6_init_19 rfl (fun q19 => ?_)
  refine GW.dup dX6_init_22 rfl rfl ?_
  refine GW.sipush (v := 576) dX6_init_23 (by decide) rfl ?_
  refine GW.callI (I_row (N := 576) rfl (by omega)) cX6_11 (by omega) (by omega) (by omega) rfl rfl (Nat.le_of_ble_eq_true rfl) dX6_init_26 rfl (fun cs26 r26 => ?_)
  obtain ⟨a26, rfl⟩ := r26
  refine GW.put gX6_20 rfl rfl rfl (Nat.le_of_ble_eq_true rfl) dX6_init_29 rfl ?_
  refine GW.aload_n (i := 0) dX6_init_32 rfl rfl rfl ?_
  refine GW.newT (ci := 3) (fs := [.null]) rfl tyX3_ok (fun j hj => by rcases (show j = 0 by omega) with rfl; rfl) clX6_9 in_X3 iz_X3 (by omega) (by omega) dX6_init_33 rfl (fun q33 => ?_)
  refine GW.dup dX6_init_36 rfl rfl ?_
  refine GW.sipush (v := 576) dX6_init_37 (by decide) rfl ?_
  refine GW.callI (I_row (N := 576) rfl (by omega)) cX6_11 (by omega) (by omega) (by omega) rfl rfl (Nat.le_of_ble_eq_true rfl) dX6_init_40 rfl (fun cs40 r40 => ?_)
  obtain ⟨a40, rfl⟩ := r40
  refine GW.put gX6_23 rfl rfl rfl (Nat.le_of_ble_eq_true rfl) dX6_init_43 rfl ?_
  refine GW.aload_n (i := 0) dX6_init_46 rfl rfl rfl ?_
  refine GW.newT (ci := 3) (fs := [.null]) rfl tyX3_ok (fun j hj => by rcases (show j = 0 by omega) with rfl; rfl) clX6_9 in_X3 iz_X3 (by omega) (by omega) dX6_init_47 rfl (fun q47 => ?_)
  refine GW.dup dX6_init_50 rfl rfl ?_
  refine GW.sipush (v := 576) dX6_init_51 (by decide) rfl ?_
  refine GW.callI (I_row (N := 576) rfl (by omega)) cX6_11 (by omega) (by omega) (by omega) rfl rfl (Nat.le_of_ble_eq_true rfl) dX6_init_54 rfl (fun cs54 r54 => ?_)
  obtain ⟨a54, rfl⟩ := r54
  refine GW.put gX6_26 rfl rfl rfl (Nat.le_of_ble_eq_true rfl) dX6_init_57 rfl ?_
  refine GW.aload_n (i := 0) dX6_init_60 rfl rfl rfl ?_
  refine GW.newT (ci := 3) (fs := [.null]) rfl tyX3_ok (fun j hj => by rcases (show j = 0 by omega) with rfl; rfl) clX6_9 in_X3 iz_X3 (by omega) (by omega) dX6_init_61 rfl (fun q61 => ?_)
  refine GW.dup dX6_init_64 rfl rfl ?_
  refine GW.sipush (v := 576) dX6_init_65 (by decide) rfl ?_
  refine GW.callI (I_row (N := 576) rfl (by omega)) cX6_11 (by omega) (by omega) (by omega) rfl rfl (Nat.le_of_ble_eq_true rfl) dX6_init_68 rfl (fun cs68 r68 => ?_)
  obtain ⟨a68, rfl⟩ := r68
  refine GW.put gX6_29 rfl rfl rfl (Nat.le_of_ble_eq_true rfl) dX6_init_71 rfl ?_
  refine GW.aload_n (i := 0) dX6_init_74 rfl rfl rfl ?_
  refine GW.newT (ci := 3) (fs := [.null]) rfl tyX3_ok (fun j hj => by rcases (show j = 0 by omega) with rfl; rfl) clX6_9 in_X3 iz_X3 (by omega) (by omega) dX6_init_75 rfl (fun q75 => ?_)
  refine GW.dup dX6_init_78 rfl rfl ?_
  refine GW.sipush (v := 576) dX6_init_79 (by decide) rfl ?_
  refine GW.callI (I_row (N := 576) rfl (by omega)) cX6_11 (by omega) (by omega) (by omega) rfl rfl (Nat.le_of_ble_eq_true rfl) dX6_init_82 rfl (fun cs82 r82 => ?_)
  obtain ⟨a82, rfl⟩ := r82
  refine GW.put gX6_32 rfl rfl rfl (Nat.le_of_ble_eq_true rfl) dX6_init_85 rfl ?_
  refine GW.aload_n (i := 0) dX6_init_88 rfl rfl rfl ?_
  refine GW.newT (ci := 3) (fs := [.null]) rfl tyX3_ok (fun j hj => by rcases (show j = 0 by omega) with rfl; rfl) clX6_9 in_X3 iz_X3 (by omega) (by omega) dX6_init_89 rfl (fun q89 => ?_)
  refine GW.dup dX6_init_92 rfl rfl ?_
  refine GW.sipush (v := 576) dX6_init_93 (by decide) rfl ?_
  refine GW.callI (I_row (N := 576) rfl (by omega)) cX6_11 (by omega) (by omega) (by omega) rfl rfl (Nat.le_of_ble_eq_true rfl) dX6_init_96 rfl (fun cs96 r96 => ?_)
  obtain ⟨a96, rfl⟩ := r96
  refine GW.put gX6_35 rfl rfl rfl (Nat.le_of_ble_eq_true rfl) dX6_init_99 rfl ?_
  refine GW.aload_n (i := 0) dX6_init_102 rfl rfl rfl ?_
  refine GW.newT (ci := 3) (fs := [.null]) rfl tyX3_ok (fun j hj => by rcases (show j = 0 by omega) with rfl; rfl) clX6_9 in_X3 iz_X3 (by omega) (by omega) dX6_init_103 rfl (fun q103 => ?_)
  refine GW.dup dX6_init_106 rfl rfl ?_
  refine GW.sipush (v := 576) dX6_init_107 (by decide) rfl ?_
  refine GW.callI (I_row (N := 576) rfl (by omega)) cX6_11 (by omega) (by omega) (by omega) rfl rfl (Nat.le_of_ble_eq_true rfl) dX6_init_110 rfl (fun cs110 r110 => ?_)
  obtain ⟨a110, rfl⟩ := r110
  refine GW.put gX6_38 rfl rfl rfl (Nat.le_of_ble_eq_true rfl) dX6_init_113 rfl ?_
  refine GW.aload_n (i := 0) dX6_init_116 rfl rfl rfl ?_
  refine GW.iconst (v := 0) dX6_init_117 (by decide) rfl ?_
  refine GW.put gX6_41 rfl rfl rfl (Nat.le_of_ble_eq_true rfl) dX6_init_118 rfl ?_
  refine GW.vret rfl dX6_init_121 (by omega) (by omega) ?_
  exact ⟨_, rfl, fun j => [q5, a12, q19, a26, q33, a40, q47, a54, q61, a68, q75, a82, q89, a96, q103, a110].getD j 0, rfl⟩
def cC2 (Y : gw_D) (h : Nat) (f : Nat → Nat) : va_W := [(h, .inr (2, [.ref (f 0), .ref (f 2), .ref (f 4), .int 0])),
  (f 0, .inr (3, [.ref (f 1)])),
  (f 1, .inl (Y.2.2.1, 576, .inl (fun _ => 0))),
  (f 2, .inr (3, [.ref (f 3)])),
  (f 3, .inl (Y.2.2.1, 576, .inl (fun _ => 0))),
  (f 4, .inr (3, [.ref (f 5)])),
  (f 5, .inl (Y.2.2.1, 576, .inl (fun _ => 0)))]
theorem I_X2 : gw_I Y 2 6 1731 mX2_init [.ref h] [(h, .inr (2, [.null, .null, .null, .int 0]))] (fun cs => ∃ f : Nat → Nat, cs = cC2 Y h f) := by
  intro B
  refine gw_M.of (by decide +kernel) rfl (Nat.le_of_ble_eq_true rfl) rfl ?_
  refine GW.aload_n (i := 0) dX2_init_0 rfl rfl rfl ?_
  refine GW.objInit oi_X2 oi_i oi_c (by omega) (Nat.le_of_ble_eq_true rfl) dX2_init_1 rfl ?_
  refine GW.aload_n (i := 0) dX2_init_4 rfl rfl rfl ?_
  refine GW.newT (ci := 3) (fs := [.null]) rfl tyX3_ok (fun j hj => by rcases (show j = 0 by omega) with rfl; rfl) clX2_9 in_X3 iz_X3 (by omega) (by omega) dX2_init_5 rfl (fun q5 => ?_)
  refine GW.dup dX2_init_8 rfl rfl ?_
  refine GW.sipush (v := 576) dX2_init_9 (by decide) rfl ?_
  refine GW.callI (I_row (N := 576) rfl (by omega)) cX2_11 (by omega) (by omega) (by omega) rfl rfl (Nat.le_of_ble_eq_true rfl) dX2_init_12 rfl (fun cs12 r12 => ?_)
  obtain ⟨a12, rfl⟩ := r12
  refine GW.put gX2_14 rfl rfl rfl (Nat.le_of_ble_eq_true rfl) dX2_init_15 rfl ?_
  refine GW.aload_n (i := 0) dX2_init_18 rfl rfl rfl ?_
  refine GW.newT (ci := 3) (fs := [.null]) rfl tyX3_ok (fun j hj => by rcases (show j = 0 by omega) with rfl; rfl) clX2_9 in_X3 iz_X3 (by omega) (by omega) dX2_init_19 rfl (fun q19 => ?_)
  refine GW.dup dX2_init_22 rfl rfl ?_
  refine GW.sipush (v := 576) dX2_init_23 (by decide) rfl ?_
  refine GW.callI (I_row (N := 576) rfl (by omega)) cX2_11 (by omega) (by omega) (by omega) rfl rfl (Nat.le_of_ble_eq_true rfl) dX2_init_26 rfl (fun cs26 r26 => ?_)
  obtain ⟨a26, rfl⟩ := r26
  refine GW.put gX2_20 rfl rfl rfl (Nat.le_of_ble_eq_true rfl) dX2_init_29 rfl ?_
  refine GW.aload_n (i := 0) dX2_init_32 rfl rfl rfl ?_
  refine GW.newT (ci := 3) (fs := [.null]) rfl tyX3_ok (fun j hj => by rcases (show j = 0 by omega) with rfl; rfl) clX2_9 in_X3 iz_X3 (by omega) (by omega) dX2_init_33 rfl (fun q33 => ?_)
  refine GW.dup dX2_init_36 rfl rfl ?_
  refine GW.sipush (v := 576) dX2_init_37 (by decide) rfl ?_
  refine GW.callI (I_row (N := 576) rfl (by omega)) cX2_11 (by omega) (by omega) (by omega) rfl rfl (Nat.le_of_ble_eq_true rfl) dX2_init_40 rfl (fun cs40 r40 => ?_)
  obtain ⟨a40, rfl⟩ := r40
  refine GW.put gX2_23 rfl rfl rfl (Nat.le_of_ble_eq_true rfl) dX2_init_43 rfl ?_
  refine GW.aload_n (i := 0) dX2_init_46 rfl rfl rfl ?_
  refine GW.iconst (v := 0) dX2_init_47 (by decide) rfl ?_
  refine GW.put gX2_26 rfl rfl rfl (Nat.le_of_ble_eq_true rfl) dX2_init_48 rfl ?_
  refine GW.vret rfl dX2_init_51 (by omega) (by omega) ?_
  exact ⟨_, rfl, fun j => [q5, a12, q19, a26, q33, a40].getD j 0, rfl⟩
def cC4 (Y : gw_D) (h : Nat) (f : Nat → Nat) : va_W := [(h, .inr (4, [.ref (f 0), .ref (f 2), .int 0])),
  (f 0, .inr (3, [.ref (f 1)])),
  (f 1, .inl (Y.2.2.1, 576, .inl (fun _ => 0))),
  (f 2, .inr (3, [.ref (f 3)])),
  (f 3, .inl (Y.2.2.1, 6, .inl (fun _ => 0)))]
theorem I_X4 : gw_I Y 2 4 584 mX4_init [.ref h] [(h, .inr (4, [.null, .null, .int 0]))] (fun cs => ∃ f : Nat → Nat, cs = cC4 Y h f) := by
  intro B
  refine gw_M.of (by decide +kernel) rfl (Nat.le_of_ble_eq_true rfl) rfl ?_
  refine GW.aload_n (i := 0) dX4_init_0 rfl rfl rfl ?_
  refine GW.objInit oi_X4 oi_i oi_c (by omega) (Nat.le_of_ble_eq_true rfl) dX4_init_1 rfl ?_
  refine GW.aload_n (i := 0) dX4_init_4 rfl rfl rfl ?_
  refine GW.newT (ci := 3) (fs := [.null]) rfl tyX3_ok (fun j hj => by rcases (show j = 0 by omega) with rfl; rfl) clX4_9 in_X3 iz_X3 (by omega) (by omega) dX4_init_5 rfl (fun q5 => ?_)
  refine GW.dup dX4_init_8 rfl rfl ?_
  refine GW.sipush (v := 576) dX4_init_9 (by decide) rfl ?_
  refine GW.callI (I_row (N := 576) rfl (by omega)) cX4_11 (by omega) (by omega) (by omega) rfl rfl (Nat.le_of_ble_eq_true rfl) dX4_init_12 rfl (fun cs12 r12 => ?_)
  obtain ⟨a12, rfl⟩ := r12
  refine GW.put gX4_14 rfl rfl rfl (Nat.le_of_ble_eq_true rfl) dX4_init_15 rfl ?_
  refine GW.aload_n (i := 0) dX4_init_18 rfl rfl rfl ?_
  refine GW.newT (ci := 3) (fs := [.null]) rfl tyX3_ok (fun j hj => by rcases (show j = 0 by omega) with rfl; rfl) clX4_9 in_X3 iz_X3 (by omega) (by omega) dX4_init_19 rfl (fun q19 => ?_)
  refine GW.dup dX4_init_22 rfl rfl ?_
  refine GW.bipush (v := 6) dX4_init_23 (by decide) rfl ?_
  refine GW.callI (I_row (N := 6) rfl (by omega)) cX4_11 (by omega) (by omega) (by omega) rfl rfl (Nat.le_of_ble_eq_true rfl) dX4_init_25 rfl (fun cs25 r25 => ?_)
  obtain ⟨a25, rfl⟩ := r25
  refine GW.put gX4_20 rfl rfl rfl (Nat.le_of_ble_eq_true rfl) dX4_init_28 rfl ?_
  refine GW.aload_n (i := 0) dX4_init_31 rfl rfl rfl ?_
  refine GW.iconst (v := 0) dX4_init_32 (by decide) rfl ?_
  refine GW.put gX4_23 rfl rfl rfl (Nat.le_of_ble_eq_true rfl) dX4_init_33 rfl ?_
  refine GW.vret rfl dX4_init_36 (by omega) (by omega) ?_
  exact ⟨_, rfl, fun j => [q5, a12, q19, a25].getD j 0, rfl⟩
def cC1 (Y : gw_D) (h : Nat) (f : Nat → Nat) : va_W := [(h, .inr (1, [.ref (f 0), .ref (f 2), .ref (f 4), .ref (f 6), .int 0, .int 0, .int 0, .int 0])),
  (f 0, .inr (3, [.ref (f 1)])),
  (f 1, .inl (Y.2.2.1, 3456, .inl (fun _ => 0))),
  (f 2, .inr (3, [.ref (f 3)])),
  (f 3, .inl (Y.2.2.1, 576, .inl (fun _ => 0))),
  (f 4, .inr (3, [.ref (f 5)])),
  (f 5, .inl (Y.2.2.1, 6, .inl (fun _ => 0))),
  (f 6, .inr (3, [.ref (f 7)])),
  (f 7, .inl (Y.2.2.1, 12, .inl (fun _ => 0)))]
theorem I_X1 : gw_I Y 2 8 4054 mX1_init [.ref h] [(h, .inr (1, [.null, .null, .null, .null, .int 0, .int 0, .int 0, .int 0]))] (fun cs => ∃ f : Nat → Nat, cs = cC1 Y h f) := by
  intro B
  refine gw_M.of (by decide +kernel) rfl (Nat.le_of_ble_eq_true rfl) rfl ?_
  refine GW.aload_n (i := 0) dX1_init_0 rfl rfl rfl ?_
  refine GW.objInit oi_X1 oi_i oi_c (by omega) (Nat.le_of_ble_eq_true rfl) dX1_init_1 rfl ?_
  refine GW.aload_n (i := 0) dX1_init_4 rfl rfl rfl ?_
  refine GW.newT (ci := 3) (fs := [.null]) rfl tyX3_ok (fun j hj => by rcases (show j = 0 by omega) with rfl; rfl) clX1_9 in_X3 iz_X3 (by omega) (by omega) dX1_init_5 rfl (fun q5 => ?_)
  refine GW.dup dX1_init_8 rfl rfl ?_
  refine GW.sipush (v := 3456) dX1_init_9 (by decide) rfl ?_
  refine GW.callI (I_row (N := 3456) rfl (by omega)) cX1_11 (by omega) (by omega) (by omega) rfl rfl (Nat.le_of_ble_eq_true rfl) dX1_init_12 rfl (fun cs12 r12 => ?_)
  obtain ⟨a12, rfl⟩ := r12
  refine GW.put gX1_14 rfl rfl rfl (Nat.le_of_ble_eq_true rfl) dX1_init_15 rfl ?_
  refine GW.aload_n (i := 0) dX1_init_18 rfl rfl rfl ?_
  refine GW.newT (ci := 3) (fs := [.null]) rfl tyX3_ok (fun j hj => by rcases (show j = 0 by omega) with rfl; rfl) clX1_9 in_X3 iz_X3 (by omega) (by omega) dX1_init_19 rfl (fun q19 => ?_)
  refine GW.dup dX1_init_22 rfl rfl ?_
  refine GW.sipush (v := 576) dX1_init_23 (by decide) rfl ?_
  refine GW.callI (I_row (N := 576) rfl (by omega)) cX1_11 (by omega) (by omega) (by omega) rfl rfl (Nat.le_of_ble_eq_true rfl) dX1_init_26 rfl (fun cs26 r26 => ?_)
  obtain ⟨a26, rfl⟩ := r26
  refine GW.put gX1_20 rfl rfl rfl (Nat.le_of_ble_eq_true rfl) dX1_init_29 rfl ?_
  refine GW.aload_n (i := 0) dX1_init_32 rfl rfl rfl ?_
  refine GW.newT (ci := 3) (fs := [.null]) rfl tyX3_ok (fun j hj => by rcases (show j = 0 by omega) with rfl; rfl) clX1_9 in_X3 iz_X3 (by omega) (by omega) dX1_init_33 rfl (fun q33 => ?_)
  refine GW.dup dX1_init_36 rfl rfl ?_
  refine GW.bipush (v := 6) dX1_init_37 (by decide) rfl ?_
  refine GW.callI (I_row (N := 6) rfl (by omega)) cX1_11 (by omega) (by omega) (by omega) rfl rfl (Nat.le_of_ble_eq_true rfl) dX1_init_39 rfl (fun cs39 r39 => ?_)
  obtain ⟨a39, rfl⟩ := r39
  refine GW.put gX1_23 rfl rfl rfl (Nat.le_of_ble_eq_true rfl) dX1_init_42 rfl ?_
  refine GW.aload_n (i := 0) dX1_init_45 rfl rfl rfl ?_
  refine GW.newT (ci := 3) (fs := [.null]) rfl tyX3_ok (fun j hj => by rcases (show j = 0 by omega) with rfl; rfl) clX1_9 in_X3 iz_X3 (by omega) (by omega) dX1_init_46 rfl (fun q46 => ?_)
  refine GW.dup dX1_init_49 rfl rfl ?_
  refine GW.bipush (v := 12) dX1_init_50 (by decide) rfl ?_
  refine GW.callI (I_row (N := 12) rfl (by omega)) cX1_11 (by omega) (by omega) (by omega) rfl rfl (Nat.le_of_ble_eq_true rfl) dX1_init_52 rfl (fun cs52 r52 => ?_)
  obtain ⟨a52, rfl⟩ := r52
  refine GW.put gX1_26 rfl rfl rfl (Nat.le_of_ble_eq_true rfl) dX1_init_55 rfl ?_
  refine GW.aload_n (i := 0) dX1_init_58 rfl rfl rfl ?_
  refine GW.iconst (v := 0) dX1_init_59 (by decide) rfl ?_
  refine GW.put gX1_29 rfl rfl rfl (Nat.le_of_ble_eq_true rfl) dX1_init_60 rfl ?_
  refine GW.aload_n (i := 0) dX1_init_63 rfl rfl rfl ?_
  refine GW.iconst (v := 0) dX1_init_64 (by decide) rfl ?_
  refine GW.put gX1_33 rfl rfl rfl (Nat.le_of_ble_eq_true rfl) dX1_init_65 rfl ?_
  refine GW.aload_n (i := 0) dX1_init_68 rfl rfl rfl ?_
  refine GW.iconst (v := 0) dX1_init_69 (by decide) rfl ?_
  refine GW.put gX1_36 rfl rfl rfl (Nat.le_of_ble_eq_true rfl) dX1_init_70 rfl ?_
  refine GW.aload_n (i := 0) dX1_init_73 rfl rfl rfl ?_
  refine GW.iconst (v := 0) dX1_init_74 (by decide) rfl ?_
  refine GW.put gX1_39 rfl rfl rfl (Nat.le_of_ble_eq_true rfl) dX1_init_75 rfl ?_
  refine GW.vret rfl dX1_init_78 (by omega) (by omega) ?_
  exact ⟨_, rfl, fun j => [q5, a12, q19, a26, q33, a39, q46, a52].getD j 0, rfl⟩
def cC0 (Y : gw_D) (h : Nat) (f : Nat → Nat) : va_W := [(h, .inr (0, [.ref (f 0), .int 0, .int 0])),
  (f 0, .inr (3, [.ref (f 1)])),
  (f 1, .inl (Y.2.2.1, 2308, .inl (fun _ => 0)))]
theorem I_X0 : gw_I Y 2 2 2309 mX0_init [.ref h] [(h, .inr (0, [.null, .int 0, .int 0]))] (fun cs => ∃ f : Nat → Nat, cs = cC0 Y h f) := by
  intro B
  refine gw_M.of (by decide +kernel) rfl (Nat.le_of_ble_eq_true rfl) rfl ?_
  refine GW.aload_n (i := 0) dX0_init_0 rfl rfl rfl ?_
  refine GW.objInit oi_X0 oi_i oi_c (by omega) (Nat.le_of_ble_eq_true rfl) dX0_init_1 rfl ?_
  refine GW.aload_n (i := 0) dX0_init_4 rfl rfl rfl ?_
  refine GW.newT (ci := 3) (fs := [.null]) rfl tyX3_ok (fun j hj => by rcases (show j = 0 by omega) with rfl; rfl) clX0_9 in_X3 iz_X3 (by omega) (by omega) dX0_init_5 rfl (fun q5 => ?_)
  refine GW.dup dX0_init_8 rfl rfl ?_
  refine GW.sipush (v := 2308) dX0_init_9 (by decide) rfl ?_
  refine GW.callI (I_row (N := 2308) rfl (by omega)) cX0_13 (by omega) (by omega) (by omega) rfl rfl (Nat.le_of_ble_eq_true rfl) dX0_init_12 rfl (fun cs12 r12 => ?_)
  obtain ⟨a12, rfl⟩ := r12
  refine GW.put gX0_16 rfl rfl rfl (Nat.le_of_ble_eq_true rfl) dX0_init_15 rfl ?_
  refine GW.aload_n (i := 0) dX0_init_18 rfl rfl rfl ?_
  refine GW.iconst (v := 0) dX0_init_19 (by decide) rfl ?_
  refine GW.put gX0_20 rfl rfl rfl (Nat.le_of_ble_eq_true rfl) dX0_init_20 rfl ?_
  refine GW.aload_n (i := 0) dX0_init_23 rfl rfl rfl ?_
  refine GW.iconst (v := 0) dX0_init_24 (by decide) rfl ?_
  refine GW.put gX0_24 rfl rfl rfl (Nat.le_of_ble_eq_true rfl) dX0_init_25 rfl ?_
  refine GW.vret rfl dX0_init_28 (by omega) (by omega) ?_
  exact ⟨_, rfl, fun j => [q5, a12].getD j 0, rfl⟩
def cC8 (Y : gw_D) (h : Nat) (f : Nat → Nat) : va_W := [(h, .inr (8, [.int 0, .int 12, .int 0, .int 0, .ref (f 0), .int 0, .int 0, .ref (f 1), .ref (f 2), .ref (f 3), .int 0, .ref (f 4), .ref (f 5), .ref (f 6), .ref (f 7), .ref (f 8), .ref (f 9), .ref (f 10), .int 0, .int 0, .ref (f 11), .int 0, .int 0, .int 0, .ref (f 12), .ref (f 13), .ref (f 14), .ref (f 15), .ref (f 16), .ref (f 17)])),
  (f 0, .inl (Y.2.2.1, 4, .inl (upd (upd (upd (upd (fun _ => 0) 0 80) 1 8) 2 4) 3 20))),
  (f 1, .inl (Y.2.2.1, 30, .inl (fun _ => 0))),
  (f 2, .inl (Y.2.2.1, 30, .inl (fun _ => 0))),
  (f 3, .inl (Y.2.2.1, 30, .inl (fun _ => 0))),
  (f 4, .inl (Y.2.2.1, 576, .inl (fun _ => 0))),
  (f 5, .inl (Y.2.2.1, 576, .inl (fun _ => 0))),
  (f 6, .inl (Y.2.2.1, 576, .inl (fun _ => 0))),
  (f 7, .inl (Y.2.2.1, 576, .inl (fun _ => 0))),
  (f 8, .inl (Y.2.2.1, 576, .inl (fun _ => 0))),
  (f 9, .inl (Y.2.2.1, 576, .inl (fun _ => 0))),
  (f 10, .inl (Y.2.2.1, 576, .inl (fun _ => 0))),
  (f 11, .inl (Y.2.2.1, 6, .inl (fun _ => 0))),
  (f 12, .inl (Y.2.2.1, 6, .inl (fun _ => 0))),
  (f 13, .inl (Y.2.2.1, 6, .inl (fun _ => 0))),
  (f 14, .inl (Y.2.2.1, 576, .inl (fun _ => 0))),
  (f 15, .inl (Y.2.2.1, 576, .inl (fun _ => 0))),
  (f 16, .inl (Y.2.2.2, 576, .inl (fun _ => 0))),
  (f 17, .inl (Y.2.2.1, 576, .inl (fun _ => 0)))]
theorem I_X8 : gw_I Y 1 18 6448 mX8_init [.ref h] [(h, .inr (8, [.int 0, .int 0, .int 0, .int 0, .null, .int 0, .int 0, .null, .null, .null, .int 0, .null, .null, .null, .null, .null, .null, .null, .int 0, .int 0, .null, .int 0, .int 0, .int 0, .null, .null, .null, .null, .null, .null]))] (fun cs => ∃ f : Nat → Nat, cs = cC8 Y h f) := by
  intro B
  refine gw_M.of (by decide +kernel) rfl (Nat.le_of_ble_eq_true rfl) rfl ?_
  refine GW.aload_n (i := 0) dX8_init_0 rfl rfl rfl ?_
  refine GW.objInit oi_X8 oi_i oi_c (by omega) (Nat.le_of_ble_eq_true rfl) dX8_init_1 rfl ?_
  refine GW.aload_n (i := 0) dX8_init_4 rfl rfl rfl ?_
  refine GW.bipush (v := 12) dX8_init_5 (by decide) rfl ?_
  refine GW.put gX8_7 rfl rfl rfl (Nat.le_of_ble_eq_true rfl) dX8_init_7 rfl ?_
  refine GW.aload_n (i := 0) dX8_init_10 rfl rfl rfl ?_
  refine GW.iconst (v := 4) dX8_init_11 (by decide) rfl ?_
  refine GW.newiT (N := 4) ac_i (by omega) rfl (by omega) (by omega) dX8_init_12 rfl (fun q12 => ?_)
  refine GW.put gX8_13 rfl rfl rfl (Nat.le_of_ble_eq_true rfl) dX8_init_14 rfl ?_
  refine GW.aload_n (i := 0) dX8_init_17 rfl rfl rfl ?_
  refine GW.bipush (v := 30) dX8_init_18 (by decide) rfl ?_
  refine GW.newiT (N := 30) ac_i (by omega) rfl (by omega) (by omega) dX8_init_20 rfl (fun q20 => ?_)
  refine GW.put gX8_17 rfl rfl rfl (Nat.le_of_ble_eq_true rfl) dX8_init_22 rfl ?_
  refine GW.aload_n (i := 0) dX8_init_25 rfl rfl rfl ?_
  refine GW.bipush (v := 30) dX8_init_26 (by decide) rfl ?_
  refine GW.newiT (N := 30) ac_i (by omega) rfl (by omega) (by omega) dX8_init_28 rfl (fun q28 => ?_)
  refine GW.put gX8_20 rfl rfl rfl (Nat.le_of_ble_eq_true rfl) dX8_init_30 rfl ?_
  refine GW.aload_n (i := 0) dX8_init_33 rfl rfl rfl ?_
  refine GW.bipush (v := 30) dX8_init_34 (by decide) rfl ?_
  refine GW.newiT (N := 30) ac_i (by omega) rfl (by omega) (by omega) dX8_init_36 rfl (fun q36 => ?_)
  refine GW.put gX8_23 rfl rfl rfl (Nat.le_of_ble_eq_true rfl) dX8_init_38 rfl ?_
  refine GW.aload_n (i := 0) dX8_init_41 rfl rfl rfl ?_
  refine GW.sipush (v := 576) dX8_init_42 (by decide) rfl ?_
  refine GW.newiT (N := 576) ac_i (by omega) rfl (by omega) (by omega) dX8_init_45 rfl (fun q45 => ?_)
  refine GW.put gX8_26 rfl rfl rfl (Nat.le_of_ble_eq_true rfl) dX8_init_47 rfl ?_
  refine GW.aload_n (i := 0) dX8_init_50 rfl rfl rfl ?_
  refine GW.sipush (v := 576) dX8_init_51 (by decide) rfl ?_
  refine GW.newiT (N := 576) ac_i (by omega) rfl (by omega) (by omega) dX8_init_54 rfl (fun q54 => ?_)
  refine GW.put gX8_29 rfl rfl rfl (Nat.le_of_ble_eq_true rfl) dX8_init_56 rfl ?_
  refine GW.aload_n (i := 0) dX8_init_59 rfl rfl rfl ?_
  refine GW.sipush (v := 576) dX8_init_60 (by decide) rfl ?_
  refine GW.newiT (N := 576) ac_i (by omega) rfl (by omega) (by omega) dX8_init_63 rfl (fun q63 => ?_)
  refine GW.put gX8_32 rfl rfl rfl (Nat.le_of_ble_eq_true rfl) dX8_init_65 rfl ?_
  refine GW.aload_n (i := 0) dX8_init_68 rfl rfl rfl ?_
  refine GW.sipush (v := 576) dX8_init_69 (by decide) rfl ?_
  refine GW.newiT (N := 576) ac_i (by omega) rfl (by omega) (by omega) dX8_init_72 rfl (fun q72 => ?_)
  refine GW.put gX8_35 rfl rfl rfl (Nat.le_of_ble_eq_true rfl) dX8_init_74 rfl ?_
  refine GW.aload_n (i := 0) dX8_init_77 rfl rfl rfl ?_
  refine GW.sipush (v := 576) dX8_init_78 (by decide) rfl ?_
  refine GW.newiT (N := 576) ac_i (by omega) rfl (by omega) (by omega) dX8_init_81 rfl (fun q81 => ?_)
  refine GW.put gX8_38 rfl rfl rfl (Nat.le_of_ble_eq_true rfl) dX8_init_83 rfl ?_
  refine GW.aload_n (i := 0) dX8_init_86 rfl rfl rfl ?_
  refine GW.sipush (v := 576) dX8_init_87 (by decide) rfl ?_
  refine GW.newiT (N := 576) ac_i (by omega) rfl (by omega) (by omega) dX8_init_90 rfl (fun q90 => ?_)
  refine GW.put gX8_41 rfl rfl rfl (Nat.le_of_ble_eq_true rfl) dX8_init_92 rfl ?_
  refine GW.aload_n (i := 0) dX8_init_95 rfl rfl rfl ?_
  refine GW.sipush (v := 576) dX8_init_96 (by decide) rfl ?_
  refine GW.newiT (N := 576) ac_i (by omega) rfl (by omega) (by omega) dX8_init_99 rfl (fun q99 => ?_)
  refine GW.put gX8_44 rfl rfl rfl (Nat.le_of_ble_eq_true rfl) dX8_init_101 rfl ?_
  refine GW.aload_n (i := 0) dX8_init_104 rfl rfl rfl ?_
  refine GW.bipush (v := 6) dX8_init_105 (by decide) rfl ?_
  refine GW.newiT (N := 6) ac_i (by omega) rfl (by omega) (by omega) dX8_init_107 rfl (fun q107 => ?_)
  refine GW.put gX8_47 rfl rfl rfl (Nat.le_of_ble_eq_true rfl) dX8_init_109 rfl ?_
  refine GW.aload_n (i := 0) dX8_init_112 rfl rfl rfl ?_
  refine GW.bipush (v := 6) dX8_init_113 (by decide) rfl ?_
  refine GW.newiT (N := 6) ac_i (by omega) rfl (by omega) (by omega) dX8_init_115 rfl (fun q115 => ?_)
  refine GW.put gX8_50 rfl rfl rfl (Nat.le_of_ble_eq_true rfl) dX8_init_117 rfl ?_
  refine GW.aload_n (i := 0) dX8_init_120 rfl rfl rfl ?_
  refine GW.bipush (v := 6) dX8_init_121 (by decide) rfl ?_
  refine GW.newiT (N := 6) ac_i (by omega) rfl (by omega) (by omega) dX8_init_123 rfl (fun q123 => ?_)
  refine GW.put gX8_53 rfl rfl rfl (Nat.le_of_ble_eq_true rfl) dX8_init_125 rfl ?_
  refine GW.aload_n (i := 0) dX8_init_128 rfl rfl rfl ?_
  refine GW.sipush (v := 576) dX8_init_129 (by decide) rfl ?_
  refine GW.newiT (N := 576) ac_i (by omega) rfl (by omega) (by omega) dX8_init_132 rfl (fun q132 => ?_)
  refine GW.put gX8_56 rfl rfl rfl (Nat.le_of_ble_eq_true rfl) dX8_init_134 rfl ?_
  refine GW.aload_n (i := 0) dX8_init_137 rfl rfl rfl ?_
  refine GW.sipush (v := 576) dX8_init_138 (by decide) rfl ?_
  refine GW.newiT (N := 576) ac_i (by omega) rfl (by omega) (by omega) dX8_init_141 rfl (fun q141 => ?_)
  refine GW.put gX8_59 rfl rfl rfl (Nat.le_of_ble_eq_true rfl) dX8_init_143 rfl ?_
  refine GW.aload_n (i := 0) dX8_init_146 rfl rfl rfl ?_
  refine GW.sipush (v := 576) dX8_init_147 (by decide) rfl ?_
  refine GW.newzT (N := 576) ac_z (by omega) rfl (by omega) (by omega) dX8_init_150 rfl (fun q150 => ?_)
  refine GW.put gX8_62 rfl rfl rfl (Nat.le_of_ble_eq_true rfl) dX8_init_152 rfl ?_
  refine GW.aload_n (i := 0) dX8_init_155 rfl rfl rfl ?_
  refine GW.sipush (v := 576) dX8_init_156 (by decide) rfl ?_
  refine GW.newiT (N := 576) ac_i (by omega) rfl (by omega) (by omega) dX8_init_159 rfl (fun q159 => ?_)
  refine GW.put gX8_66 rfl rfl rfl (Nat.le_of_ble_eq_true rfl) dX8_init_161 rfl ?_
  refine GW.aload_n (i := 0) dX8_init_164 rfl rfl rfl ?_
  refine GW.get fX8_13 rfl dX8_init_165 rfl ?_
  refine GW.iconst (v := 0) dX8_init_168 (by decide) rfl ?_
  refine GW.bipush (v := 80) dX8_init_169 (by decide) rfl ?_
  refine GW.iastN (i := 0) rfl (by omega) dX8_init_171 rfl ?_
  refine GW.aload_n (i := 0) dX8_init_172 rfl rfl rfl ?_
  refine GW.get fX8_13 rfl dX8_init_173 rfl ?_
  refine GW.iconst (v := 1) dX8_init_176 (by decide) rfl ?_
  refine GW.bipush (v := 8) dX8_init_177 (by decide) rfl ?_
  refine GW.iastN (i := 1) rfl (by omega) dX8_init_179 rfl ?_
  refine GW.aload_n (i := 0) dX8_init_180 rfl rfl rfl ?_
  refine GW.get fX8_13 rfl dX8_init_181 rfl ?_
  refine GW.iconst (v := 2) dX8_init_184 (by decide) rfl ?_
  refine GW.iconst (v := 4) dX8_init_185 (by decide) rfl ?_
  refine GW.iastN (i := 2) rfl (by omega) dX8_init_186 rfl ?_
  refine GW.aload_n (i := 0) dX8_init_187 rfl rfl rfl ?_
  refine GW.get fX8_13 rfl dX8_init_188 rfl ?_
  refine GW.iconst (v := 3) dX8_init_191 (by decide) rfl ?_
  refine GW.bipush (v := 20) dX8_init_192 (by decide) rfl ?_
  refine GW.iastN (i := 3) rfl (by omega) dX8_init_194 rfl ?_
  refine GW.vret rfl dX8_init_195 (by omega) (by omega) ?_
  exact ⟨_, rfl, fun j => [q12, q20, q28, q36, q45, q54, q63, q72, q81, q90, q99, q107, q115, q123, q132, q141, q150, q159].getD j 0, rfl⟩
end CTOR
