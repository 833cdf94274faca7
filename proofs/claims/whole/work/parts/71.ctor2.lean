/-! the constructor of the reference -/
section CTOR2
variable {Y : gw_D} {h N : Nat} {x y v : Int32}
def cC8 (Y : gw_D) (h : Nat) (f : Nat → Nat) : va_W := [(h, .inr (8, [.int 0, .int 12, .int 0, .int 0, .ref (f 0), .int 0, .int 0, .ref (f 1), .ref (f 2), .ref (f 3), .int 0, .ref (f 4), .ref (f 5), .ref (f 6), .ref (f 7), .ref (f 8), .ref (f 9), .ref (f 10), .int 0, .int 0, .ref (f 11), .int 0, .int 0, .int 0, .ref (f 12), .ref (f 13), .ref (f 14), .ref (f 15), .ref (f 16), .ref (f 17)])),
  (f 0, .inl (Y.2.2.1, 4, .inl (upd (upd (upd (upd (fun _ => 0) 0 80) 1 8) 2 4) 3 20))),
  (f 1, .inl (Y.2.2.1, 30, .inl (fun _ => 0))),
  (f 2, .inl (Y.2.2.1, 30, .inl (fun _ => 0))),
  (f 3, .inl (Y.2.2.1, 30, .inl (fun _ => 0))),
  (f 4, .inl (Y.2.2.1, 576, .inl (fun _ => 0))),
  (f 5, .inl (Y.2.2.1, 576, .inl (fun _ => 0))),
  (f 6, .inl (Y.2.2.1, 576, .inl (fun _ => 0))),
  (f 7, .inl (Y.2.2.1, 576, .inl (fun _ => 0))),
  (f 8, .inl (Y.2.2.1, 576, .inl (fun _ => 0))),
  (f 9, .inl (Y.2.2.1, 576, .inl (fun _ => 0))),
  (f 10, .inl (Y.2.2.1, 576, .inl (fun _ => 0))),
  (f 11, .inl (Y.2.2.1, 6, .inl (fun _ => 0))),
  (f 12, .inl (Y.2.2.1, 6, .inl (fun _ => 0))),
  (f 13, .inl (Y.2.2.1, 6, .inl (fun _ => 0))),
  (f 14, .inl (Y.2.2.1, 576, .inl (fun _ => 0))),
  (f 15, .inl (Y.2.2.1, 576, .inl (fun _ => 0))),
  (f 16, .inl (Y.2.2.2, 576, .inl (fun _ => 0))),
  (f 17, .inl (Y.2.2.1, 576, .inl (fun _ => 0)))]
theorem I_X8 : gw_I Y 1 18 6448 mX8_init [.ref h] [(h, .inr (8, [.int 0, .int 0, .int 0, .int 0, .null, .int 0, .int 0, .null, .null, .null, .int 0, .null, .null, .null, .null, .null, .null, .null, .int 0, .int 0, .null, .int 0, .int 0, .int 0, .null, .null, .null, .null, .null, .null]))] (fun cs => ∃ f : Nat → Nat, cs = cC8 Y h f) := by
  intro B
  refine gw_M.of (by decide +kernel) rfl (Nat.le_of_ble_eq_true rfl) rfl ?_
  refine GW.aload_n (i := 0) dX8_init_0 rfl rfl rfl ?_
  refine GW.objInit oi_X8 oi_i oi_c (by omega) (Nat.le_of_ble_eq_true rfl) dX8_init_1 rfl ?_
  refine GW.aload_n (i := 0) dX8_init_4 rfl rfl rfl ?_
  refine GW.bipush (v := 12) dX8_init_5 (by decide) rfl ?_
  refine GW.putS (fs' := [.int 0, .int 12, .int 0, .int 0, .null, .int 0, .int 0, .null, .null, .null, .int 0, .null, .null, .null, .null, .null, .null, .null, .int 0, .int 0, .null, .int 0, .int 0, .int 0, .null, .null, .null, .null, .null, .null]) gX8_7 rfl rfl rfl (Nat.le_of_ble_eq_true rfl) rfl dX8_init_7 rfl ?_
  refine GW.aload_n (i := 0) dX8_init_10 rfl rfl rfl ?_
  refine GW.iconst (v := 4) dX8_init_11 (by decide) rfl ?_
  refine GW.newiT (N := 4) ac_i (by omega) rfl (by omega) (by omega) dX8_init_12 rfl (fun q12 => ?_)
  refine GW.ws (ws' := B ++ (h, .inr (8, [.int 0, .int 12, .int 0, .int 0, .null, .int 0, .int 0, .null, .null, .null, .int 0, .null, .null, .null, .null, .null, .null, .null, .int 0, .int 0, .null, .int 0, .int 0, .int 0, .null, .null, .null, .null, .null, .null])) :: (q12, .inl (Y.2.2.1, 4, .inl (fun _ => 0))) :: []) rfl ?_
  refine GW.putS (fs' := [.int 0, .int 12, .int 0, .int 0, .ref q12, .int 0, .int 0, .null, .null, .null, .int 0, .null, .null, .null, .null, .null, .null, .null, .int 0, .int 0, .null, .int 0, .int 0, .int 0, .null, .null, .null, .null, .null, .null]) gX8_13 rfl rfl rfl (Nat.le_of_ble_eq_true rfl) rfl dX8_init_14 rfl ?_
  refine GW.aload_n (i := 0) dX8_init_17 rfl rfl rfl ?_
  refine GW.bipush (v := 30) dX8_init_18 (by decide) rfl ?_
  refine GW.newiT2 (M := 30) ac_i (by omega) rfl (by omega) (by omega) dX8_init_20 rfl (fun q20 => ?_)
  refine GW.putS (fs' := [.int 0, .int 12, .int 0, .int 0, .ref q12, .int 0, .int 0, .ref q20, .null, .null, .int 0, .null, .null, .null, .null, .null, .null, .null, .int 0, .int 0, .null, .int 0, .int 0, .int 0, .null, .null, .null, .null, .null, .null]) gX8_17 rfl rfl rfl (Nat.le_of_ble_eq_true rfl) rfl dX8_init_22 rfl ?_
  refine GW.aload_n (i := 0) dX8_init_25 rfl rfl rfl ?_
  refine GW.bipush (v := 30) dX8_init_26 (by decide) rfl ?_
  refine GW.newiT2 (M := 30) ac_i (by omega) rfl (by omega) (by omega) dX8_init_28 rfl (fun q28 => ?_)
  refine GW.putS (fs' := [.int 0, .int 12, .int 0, .int 0, .ref q12, .int 0, .int 0, .ref q20, .ref q28, .null, .int 0, .null, .null, .null, .null, .null, .null, .null, .int 0, .int 0, .null, .int 0, .int 0, .int 0, .null, .null, .null, .null, .null, .null]) gX8_20 rfl rfl rfl (Nat.le_of_ble_eq_true rfl) rfl dX8_init_30 rfl ?_
  refine GW.aload_n (i := 0) dX8_init_33 rfl rfl rfl ?_
  refine GW.bipush (v := 30) dX8_init_34 (by decide) rfl ?_
  refine GW.newiT2 (M := 30) ac_i (by omega) rfl (by omega) (by omega) dX8_init_36 rfl (fun q36 => ?_)
  refine GW.putS (fs' := [.int 0, .int 12, .int 0, .int 0, .ref q12, .int 0, .int 0, .ref q20, .ref q28, .ref q36, .int 0, .null, .null, .null, .null, .null, .null, .null, .int 0, .int 0, .null, .int 0, .int 0, .int 0, .null, .null, .null, .null, .null, .null]) gX8_23 rfl rfl rfl (Nat.le_of_ble_eq_true rfl) rfl dX8_init_38 rfl ?_
  refine GW.aload_n (i := 0) dX8_init_41 rfl rfl rfl ?_
  refine GW.sipush (v := 576) dX8_init_42 (by decide) rfl ?_
  refine GW.newiT2 (M := 576) ac_i (by omega) rfl (by omega) (by omega) dX8_init_45 rfl (fun q45 => ?_)
  refine GW.putS (fs' := [.int 0, .int 12, .int 0, .int 0, .ref q12, .int 0, .int 0, .ref q20, .ref q28, .ref q36, .int 0, .ref q45, .null, .null, .null, .null, .null, .null, .int 0, .int 0, .null, .int 0, .int 0, .int 0, .null, .null, .null, .null, .null, .null]) gX8_26 rfl rfl rfl (Nat.le_of_ble_eq_true rfl) rfl dX8_init_47 rfl ?_
  refine GW.aload_n (i := 0) dX8_init_50 rfl rfl rfl ?_
  refine GW.sipush (v := 576) dX8_init_51 (by decide) rfl ?_
  refine GW.newiT2 (M := 576) ac_i (by omega) rfl (by omega) (by omega) dX8_init_54 rfl (fun q54 => ?_)
  refine GW.putS (fs' := [.int 0, .int 12, .int 0, .int 0, .ref q12, .int 0, .int 0, .ref q20, .ref q28, .ref q36, .int 0, .ref q45, .ref q54, .null, .null, .null, .null, .null, .int 0, .int 0, .null, .int 0, .int 0, .int 0, .null, .null, .null, .null, .null, .null]) gX8_29 rfl rfl rfl (Nat.le_of_ble_eq_true rfl) rfl dX8_init_56 rfl ?_
  refine GW.aload_n (i := 0) dX8_init_59 rfl rfl rfl ?_
  refine GW.sipush (v := 576) dX8_init_60 (by decide) rfl ?_
  refine GW.newiT2 (M := 576) ac_i (by omega) rfl (by omega) (by omega) dX8_init_63 rfl (fun q63 => ?_)
  refine GW.putS (fs' := [.int 0, .int 12, .int 0, .int 0, .ref q12, .int 0, .int 0, .ref q20, .ref q28, .ref q36, .int 0, .ref q45, .ref q54, .ref q63, .null, .null, .null, .null, .int 0, .int 0, .null, .int 0, .int 0, .int 0, .null, .null, .null, .null, .null, .null]) gX8_32 rfl rfl rfl (Nat.le_of_ble_eq_true rfl) rfl dX8_init_65 rfl ?_
  refine GW.aload_n (i := 0) dX8_init_68 rfl rfl rfl ?_
  refine GW.sipush (v := 576) dX8_init_69 (by decide) rfl ?_
  refine GW.newiT2 (M := 576) ac_i (by omega) rfl (by omega) (by omega) dX8_init_72 rfl (fun q72 => ?_)
  refine GW.putS (fs' := [.int 0, .int 12, .int 0, .int 0, .ref q12, .int 0, .int 0, .ref q20, .ref q28, .ref q36, .int 0, .ref q45, .ref q54, .ref q63, .ref q72, .null, .null, .null, .int 0, .int 0, .null, .int 0, .int 0, .int 0, .null, .null, .null, .null, .null, .null]) gX8_35 rfl rfl rfl (Nat.le_of_ble_eq_true rfl) rfl dX8_init_74 rfl ?_
  refine GW.aload_n (i := 0) dX8_init_77 rfl rfl rfl ?_
  refine GW.sipush (v := 576) dX8_init_78 (by decide) rfl ?_
  refine GW.newiT2 (M := 576) ac_i (by omega) rfl (by omega) (by omega) dX8_init_81 rfl (fun q81 => ?_)
  refine GW.putS (fs' := [.int 0, .int 12, .int 0, .int 0, .ref q12, .int 0, .int 0, .ref q20, .ref q28, .ref q36, .int 0, .ref q45, .ref q54, .ref q63, .ref q72, .ref q81, .null, .null, .int 0, .int 0, .null, .int 0, .int 0, .int 0, .null, .null, .null, .null, .null, .null]) gX8_38 rfl rfl rfl (Nat.le_of_ble_eq_true rfl) rfl dX8_init_83 rfl ?_
  refine GW.aload_n (i := 0) dX8_init_86 rfl rfl rfl ?_
  refine GW.sipush (v := 576) dX8_init_87 (by decide) rfl ?_
  refine GW.newiT2 (M := 576) ac_i (by omega) rfl (by omega) (by omega) dX8_init_90 rfl (fun q90 => ?_)
  refine GW.putS (fs' := [.int 0, .int 12, .int 0, .int 0, .ref q12, .int 0, .int 0, .ref q20, .ref q28, .ref q36, .int 0, .ref q45, .ref q54, .ref q63, .ref q72, .ref q81, .ref q90, .null, .int 0, .int 0, .null, .int 0, .int 0, .int 0, .null, .null, .null, .null, .null, .null]) gX8_41 rfl rfl rfl (Nat.le_of_ble_eq_true rfl) rfl dX8_init_92 rfl ?_
  refine GW.aload_n (i := 0) dX8_init_95 rfl rfl rfl ?_
  refine GW.sipush (v := 576) dX8_init_96 (by decide) rfl ?_
  refine GW.newiT2 (M := 576) ac_i (by omega) rfl (by omega) (by omega) dX8_init_99 rfl (fun q99 => ?_)
  refine GW.putS (fs' := [.int 0, .int 12, .int 0, .int 0, .ref q12, .int 0, .int 0, .ref q20, .ref q28, .ref q36, .int 0, .ref q45, .ref q54, .ref q63, .ref q72, .ref q81, .ref q90, .ref q99, .int 0, .int 0, .null, .int 0, .int 0, .int 0, .null, .null, .null, .null, .null, .null]) gX8_44 rfl rfl rfl (Nat.le_of_ble_eq_true rfl) rfl dX8_init_101 rfl ?_
  refine GW.aload_n (i := 0) dX8_init_104 rfl rfl rfl ?_
  refine GW.bipush (v := 6) dX8_init_105 (by decide) rfl ?_
  refine GW.newiT2 (M := 6) ac_i (by omega) rfl (by omega) (by omega) dX8_init_107 rfl (fun q107 => ?_)
  refine GW.putS (fs' := [.int 0, .int 12, .int 0, .int 0, .ref q12, .int 0, .int 0, .ref q20, .ref q28, .ref q36, .int 0, .ref q45, .ref q54, .ref q63, .ref q72, .ref q81, .ref q90, .ref q99, .int 0, .int 0, .ref q107, .int 0, .int 0, .int 0, .null, .null, .null, .null, .null, .null]) gX8_47 rfl rfl rfl (Nat.le_of_ble_eq_true rfl) rfl dX8_init_109 rfl ?_
  refine GW.aload_n (i := 0) dX8_init_112 rfl rfl rfl ?_
  refine GW.bipush (v := 6) dX8_init_113 (by decide) rfl ?_
  refine GW.newiT2 (M := 6) ac_i (by omega) rfl (by omega) (by omega) dX8_init_115 rfl (fun q115 => ?_)
  refine GW.putS (fs' := [.int 0, .int 12, .int 0, .int 0, .ref q12, .int 0, .int 0, .ref q20, .ref q28, .ref q36, .int 0, .ref q45, .ref q54, .ref q63, .ref q72, .ref q81, .ref q90, .ref q99, .int 0, .int 0, .ref q107, .int 0, .int 0, .int 0, .ref q115, .null, .null, .null, .null, .null]) gX8_50 rfl rfl rfl (Nat.le_of_ble_eq_true rfl) rfl dX8_init_117 rfl ?_
  refine GW.aload_n (i := 0) dX8_init_120 rfl rfl rfl ?_
  refine GW.bipush (v := 6) dX8_init_121 (by decide) rfl ?_
  refine GW.newiT2 (M := 6) ac_i (by omega) rfl (by omega) (by omega) dX8_init_123 rfl (fun q123 => ?_)
  refine GW.putS (fs' := [.int 0, .int 12, .int 0, .int 0, .ref q12, .int 0, .int 0, .ref q20, .ref q28, .ref q36, .int 0, .ref q45, .ref q54, .ref q63, .ref q72, .ref q81, .ref q90, .ref q99, .int 0, .int 0, .ref q107, .int 0, .int 0, .int 0, .ref q115, .ref q123, .null, .null, .null, .null]) gX8_53 rfl rfl rfl (Nat.le_of_ble_eq_true rfl) rfl dX8_init_125 rfl ?_
  refine GW.aload_n (i := 0) dX8_init_128 rfl rfl rfl ?_
  refine GW.sipush (v := 576) dX8_init_129 (by decide) rfl ?_
  refine GW.newiT2 (M := 576) ac_i (by omega) rfl (by omega) (by omega) dX8_init_132 rfl (fun q132 => ?_)
  refine GW.putS (fs' := [.int 0, .int 12, .int 0, .int 0, .ref q12, .int 0, .int 0, .ref q20, .ref q28, .ref q36, .int 0, .ref q45, .ref q54, .ref q63, .ref q72, .ref q81, .ref q90, .ref q99, .int 0, .int 0, .ref q107, .int 0, .int 0, .int 0, .ref q115, .ref q123, .ref q132, .null, .null, .null]) gX8_56 rfl rfl rfl (Nat.le_of_ble_eq_true rfl) rfl dX8_init_134 rfl ?_
  refine GW.aload_n (i := 0) dX8_init_137 rfl rfl rfl ?_
  refine GW.sipush (v := 576) dX8_init_138 (by decide) rfl ?_
  refine GW.newiT2 (M := 576) ac_i (by omega) rfl (by omega) (by omega) dX8_init_141 rfl (fun q141 => ?_)
  refine GW.putS (fs' := [.int 0, .int 12, .int 0, .int 0, .ref q12, .int 0, .int 0, .ref q20, .ref q28, .ref q36, .int 0, .ref q45, .ref q54, .ref q63, .ref q72, .ref q81, .ref q90, .ref q99, .int 0, .int 0, .ref q107, .int 0, .int 0, .int 0, .ref q115, .ref q123, .ref q132, .ref q141, .null, .null]) gX8_59 rfl rfl rfl (Nat.le_of_ble_eq_true rfl) rfl dX8_init_143 rfl ?_
  refine GW.aload_n (i := 0) dX8_init_146 rfl rfl rfl ?_
  refine GW.sipush (v := 576) dX8_init_147 (by decide) rfl ?_
  refine GW.newzT2 (M := 576) ac_z (by omega) rfl (by omega) (by omega) dX8_init_150 rfl (fun q150 => ?_)
  refine GW.putS (fs' := [.int 0, .int 12, .int 0, .int 0, .ref q12, .int 0, .int 0, .ref q20, .ref q28, .ref q36, .int 0, .ref q45, .ref q54, .ref q63, .ref q72, .ref q81, .ref q90, .ref q99, .int 0, .int 0, .ref q107, .int 0, .int 0, .int 0, .ref q115, .ref q123, .ref q132, .ref q141, .ref q150, .null]) gX8_62 rfl rfl rfl (Nat.le_of_ble_eq_true rfl) rfl dX8_init_152 rfl ?_
  refine GW.aload_n (i := 0) dX8_init_155 rfl rfl rfl ?_
  refine GW.sipush (v := 576) dX8_init_156 (by decide) rfl ?_
  refine GW.newiT2 (M := 576) ac_i (by omega) rfl (by omega) (by omega) dX8_init_159 rfl (fun q159 => ?_)
  refine GW.putS (fs' := [.int 0, .int 12, .int 0, .int 0, .ref q12, .int 0, .int 0, .ref q20, .ref q28, .ref q36, .int 0, .ref q45, .ref q54, .ref q63, .ref q72, .ref q81, .ref q90, .ref q99, .int 0, .int 0, .ref q107, .int 0, .int 0, .int 0, .ref q115, .ref q123, .ref q132, .ref q141, .ref q150, .ref q159]) gX8_66 rfl rfl rfl (Nat.le_of_ble_eq_true rfl) rfl dX8_init_161 rfl ?_
  refine GW.aload_n (i := 0) dX8_init_164 rfl rfl rfl ?_
  refine GW.get fX8_13 rfl dX8_init_165 rfl ?_
  refine GW.iconst (v := 0) dX8_init_168 (by decide) rfl ?_
  refine GW.bipush (v := 80) dX8_init_169 (by decide) rfl ?_
  refine GW.iastN (i := 0) rfl (by omega) dX8_init_171 rfl ?_
  refine GW.aload_n (i := 0) dX8_init_172 rfl rfl rfl ?_
  refine GW.get fX8_13 rfl dX8_init_173 rfl ?_
  refine GW.iconst (v := 1) dX8_init_176 (by decide) rfl ?_
  refine GW.bipush (v := 8) dX8_init_177 (by decide) rfl ?_
  refine GW.iastN (i := 1) rfl (by omega) dX8_init_179 rfl ?_
  refine GW.aload_n (i := 0) dX8_init_180 rfl rfl rfl ?_
  refine GW.get fX8_13 rfl dX8_init_181 rfl ?_
  refine GW.iconst (v := 2) dX8_init_184 (by decide) rfl ?_
  refine GW.iconst (v := 4) dX8_init_185 (by decide) rfl ?_
  refine GW.iastN (i := 2) rfl (by omega) dX8_init_186 rfl ?_
  refine GW.aload_n (i := 0) dX8_init_187 rfl rfl rfl ?_
  refine GW.get fX8_13 rfl dX8_init_188 rfl ?_
  refine GW.iconst (v := 3) dX8_init_191 (by decide) rfl ?_
  refine GW.bipush (v := 20) dX8_init_192 (by decide) rfl ?_
  refine GW.iastN (i := 3) rfl (by omega) dX8_init_194 rfl ?_
  refine GW.vret rfl dX8_init_195 (by omega) (by omega) ?_
  exact ⟨_, rfl, fun j => [q12, q20, q28, q36, q45, q54, q63, q72, q81, q90, q99, q107, q115, q123, q132, q141, q150, q159].getD j 0, rfl⟩
end CTOR2
