/-! the world behind both constructors is the world of the loop -/
def w78 (Y : gw_D) (h t w p s n g r ra m : Nat) (f5 f6 f2 f4 f1 f0 f8 : Nat → Nat) : va_W := cC7 Y h t w p s n g r ra f5 f6 f2 f4 f1 f0 ++ cC8 Y m f8
def a78 (h t w p s n g r ra m : Nat) (f5 f6 f2 f4 f1 f0 f8 : Nat → Nat) : Nat → Nat := fun i => [h, t, w, p, s, n, g, r, f5 0, f5 2, f5 4, f5 6, f5 8, f5 10, f5 12, f6 0, f6 2, f6 4, f6 6, f6 8, f6 10, f6 12, f6 14, f2 0, f2 2, f2 4, f4 0, f4 2, f1 0, f1 2, f1 4, f1 6, f0 0, ra, f5 1, f5 3, f5 5, f5 7, f5 9, f5 11, f5 13, f6 1, f6 3, f6 5, f6 7, f6 9, f6 11, f6 13, f6 15, f2 1, f2 3, f2 5, f4 1, f4 3, f1 1, f1 3, f1 5, f1 7, f0 1, m, f8 0, f8 1, f8 2, f8 3, f8 4, f8 5, f8 6, f8 7, f8 8, f8 9, f8 10, f8 11, f8 12, f8 13, f8 14, f8 15, f8 16, f8 17].getD i 0
def p78 (i : Nat) : Nat := [0, 1, 16, 33, 40, 45, 54, 57, 2, 4, 6, 8, 10, 12, 14, 17, 19, 21, 23, 25, 27, 29, 31, 34, 36, 38, 41, 43, 46, 48, 50, 52, 55, 58, 3, 5, 7, 9, 11, 13, 15, 18, 20, 22, 24, 26, 28, 30, 32, 35, 37, 39, 42, 44, 47, 49, 51, 53, 56, 59, 60, 61, 62, 63, 64, 65, 66, 67, 68, 69, 70, 71, 72, 73, 74, 75, 76, 77].getD i 0
def q78 (i : Nat) : Nat := [0, 1, 8, 34, 9, 35, 10, 36, 11, 37, 12, 38, 13, 39, 14, 40, 2, 15, 41, 16, 42, 17, 43, 18, 44, 19, 45, 20, 46, 21, 47, 22, 48, 3, 23, 49, 24, 50, 25, 51, 4, 26, 52, 27, 53, 5, 28, 54, 29, 55, 30, 56, 31, 57, 6, 32, 58, 7, 33, 59, 60, 61, 62, 63, 64, 65, 66, 67, 68, 69, 70, 71, 72, 73, 74, 75, 76, 77].getD i 0
def s78 : sw_Sg := fun i => match i with
  | 1 => fun k => ([0, 12, 144] : List Int32).getD k 0
  | 33 => upd (upd (upd (upd (fun _ => 0) 0 80) 1 8) 2 4) 3 20
  | 59 => fun k => ([0, 12] : List Int32).getD k 0
  | 60 => upd (upd (upd (upd (fun _ => 0) 0 80) 1 8) 2 4) 3 20
  | _ => fun _ => 0
theorem q78_p : ∀ i, i < 78 → q78 (p78 i) = i := by decide +kernel
section W78
variable {l : Launch} {D : va_G} {cI cZ : ClassId} {h t w p s n g r ra m : Nat} {f5 f6 f2 f4 f1 f0 f8 : Nat → Nat}
abbrev x78 (l : Launch) (D : va_G) (cI cZ : ClassId) (h t w p s n g r ra m : Nat) (f5 f6 f2 f4 f1 f0 f8 : Nat → Nat) : sw_X := (l, D, a78 h t w p s n g r ra m f5 f6 f2 f4 f1 f0 f8, cI, cZ)
def fsr (ad : Nat → Nat) (f : Nat → Int32) : Nat → List (Option Nat) → List Value
  | _, [] => []
  | k, none :: r => .int (f k) :: fsr ad f (k + 1) r
  | k, some j :: r => .ref (ad j) :: fsr ad f (k + 1) r
theorem fsr_m {ad : Nat → Nat} {f : Nat → Int32} : ∀ (fk : List (Option Nat)) (k : Nat), (fk.mapIdx fun i o => match o with
    | none => Value.int (f (k + i))
    | some j => .ref (ad j)) = fsr ad f k fk := by
  intro fk
  induction fk with
  | nil => intro k; rfl
  | cons o r ih =>
    intro k
    rw [List.mapIdx_cons]
    have := ih (k + 1)
    cases o with
    | none =>
      show Value.int (f (k + 0)) :: _ = Value.int (f k) :: fsr ad f (k + 1) r
      rw [← this]
      simp only [Nat.add_zero, Nat.add_assoc, Nat.add_comm 1]
    | some j =>
      show Value.ref (ad j) :: _ = Value.ref (ad j) :: fsr ad f (k + 1) r
      rw [← this]
      simp only [Nat.add_assoc, Nat.add_comm 1]
theorem fsr_e {ad : Nat → Nat} {f : Nat → Int32} {fk : List (Option Nat)} : sw_fs ad f fk = fsr ad f 0 fk := by
  rw [← fsr_m]
  unfold sw_fs
  simp only [Nat.zero_add]
  exact congrArg (fun g => List.mapIdx g fk) (funext fun i => funext fun o => by cases o <;> rfl)
theorem w78_0 : (w78 (l, D, cI, cZ) h t w p s n g r ra m f5 f6 f2 f4 f1 f0 f8)[p78 0]? = some (sw_ad (x78 l D cI cZ h t w p s n g r ra m f5 f6 f2 f4 f1 f0 f8) 0, sw_cell (x78 l D cI cZ h t w p s n g r ra m f5 f6 f2 f4 f1 f0 f8) s78 0) := rfl
theorem w78_1 : (w78 (l, D, cI, cZ) h t w p s n g r ra m f5 f6 f2 f4 f1 f0 f8)[p78 1]? = some (sw_ad (x78 l D cI cZ h t w p s n g r ra m f5 f6 f2 f4 f1 f0 f8) 1, sw_cell (x78 l D cI cZ h t w p s n g r ra m f5 f6 f2 f4 f1 f0 f8) s78 1) := rfl
theorem w78_2 : (w78 (l, D, cI, cZ) h t w p s n g r ra m f5 f6 f2 f4 f1 f0 f8)[p78 2]? = some (sw_ad (x78 l D cI cZ h t w p s n g r ra m f5 f6 f2 f4 f1 f0 f8) 2, sw_cell (x78 l D cI cZ h t w p s n g r ra m f5 f6 f2 f4 f1 f0 f8) s78 2) := rfl
theorem w78_3 : (w78 (l, D, cI, cZ) h t w p s n g r ra m f5 f6 f2 f4 f1 f0 f8)[p78 3]? = some (sw_ad (x78 l D cI cZ h t w p s n g r ra m f5 f6 f2 f4 f1 f0 f8) 3, sw_cell (x78 l D cI cZ h t w p s n g r ra m f5 f6 f2 f4 f1 f0 f8) s78 3) := rfl
theorem w78_4 : (w78 (l, D, cI, cZ) h t w p s n g r ra m f5 f6 f2 f4 f1 f0 f8)[p78 4]? = some (sw_ad (x78 l D cI cZ h t w p s n g r ra m f5 f6 f2 f4 f1 f0 f8) 4, sw_cell (x78 l D cI cZ h t w p s n g r ra m f5 f6 f2 f4 f1 f0 f8) s78 4) := rfl
theorem w78_5 : (w78 (l, D, cI, cZ) h t w p s n g r ra m f5 f6 f2 f4 f1 f0 f8)[p78 5]? = some (sw_ad (x78 l D cI cZ h t w p s n g r ra m f5 f6 f2 f4 f1 f0 f8) 5, sw_cell (x78 l D cI cZ h t w p s n g r ra m f5 f6 f2 f4 f1 f0 f8) s78 5) := rfl
theorem w78_6 : (w78 (l, D, cI, cZ) h t w p s n g r ra m f5 f6 f2 f4 f1 f0 f8)[p78 6]? = some (sw_ad (x78 l D cI cZ h t w p s n g r ra m f5 f6 f2 f4 f1 f0 f8) 6, sw_cell (x78 l D cI cZ h t w p s n g r ra m f5 f6 f2 f4 f1 f0 f8) s78 6) := rfl
theorem w78_7 : (w78 (l, D, cI, cZ) h t w p s n g r ra m f5 f6 f2 f4 f1 f0 f8)[p78 7]? = some (sw_ad (x78 l D cI cZ h t w p s n g r ra m f5 f6 f2 f4 f1 f0 f8) 7, sw_cell (x78 l D cI cZ h t w p s n g r ra m f5 f6 f2 f4 f1 f0 f8) s78 7) := rfl
theorem w78_8 : (w78 (l, D, cI, cZ) h t w p s n g r ra m f5 f6 f2 f4 f1 f0 f8)[p78 8]? = some (sw_ad (x78 l D cI cZ h t w p s n g r ra m f5 f6 f2 f4 f1 f0 f8) 8, sw_cell (x78 l D cI cZ h t w p s n g r ra m f5 f6 f2 f4 f1 f0 f8) s78 8) := rfl
theorem w78_9 : (w78 (l, D, cI, cZ) h t w p s n g r ra m f5 f6 f2 f4 f1 f0 f8)[p78 9]? = some (sw_ad (x78 l D cI cZ h t w p s n g r ra m f5 f6 f2 f4 f1 f0 f8) 9, sw_cell (x78 l D cI cZ h t w p s n g r ra m f5 f6 f2 f4 f1 f0 f8) s78 9) := rfl
theorem w78_10 : (w78 (l, D, cI, cZ) h t w p s n g r ra m f5 f6 f2 f4 f1 f0 f8)[p78 10]? = some (sw_ad (x78 l D cI cZ h t w p s n g r ra m f5 f6 f2 f4 f1 f0 f8) 10, sw_cell (x78 l D cI cZ h t w p s n g r ra m f5 f6 f2 f4 f1 f0 f8) s78 10) := rfl
theorem w78_11 : (w78 (l, D, cI, cZ) h t w p s n g r ra m f5 f6 f2 f4 f1 f0 f8)[p78 11]? = some (sw_ad (x78 l D cI cZ h t w p s n g r ra m f5 f6 f2 f4 f1 f0 f8) 11, sw_cell (x78 l D cI cZ h t w p s n g r ra m f5 f6 f2 f4 f1 f0 f8) s78 11) := rfl
theorem w78_12 : (w78 (l, D, cI, cZ) h t w p s n g r ra m f5 f6 f2 f4 f1 f0 f8)[p78 12]? = some (sw_ad (x78 l D cI cZ h t w p s n g r ra m f5 f6 f2 f4 f1 f0 f8) 12, sw_cell (x78 l D cI cZ h t w p s n g r ra m f5 f6 f2 f4 f1 f0 f8) s78 12) := rfl
theorem w78_13 : (w78 (l, D, cI, cZ) h t w p s n g r ra m f5 f6 f2 f4 f1 f0 f8)[p78 13]? = some (sw_ad (x78 l D cI cZ h t w p s n g r ra m f5 f6 f2 f4 f1 f0 f8) 13, sw_cell (x78 l D cI cZ h t w p s n g r ra m f5 f6 f2 f4 f1 f0 f8) s78 13) := rfl
theorem w78_14 : (w78 (l, D, cI, cZ) h t w p s n g r ra m f5 f6 f2 f4 f1 f0 f8)[p78 14]? = some (sw_ad (x78 l D cI cZ h t w p s n g r ra m f5 f6 f2 f4 f1 f0 f8) 14, sw_cell (x78 l D cI cZ h t w p s n g r ra m f5 f6 f2 f4 f1 f0 f8) s78 14) := rfl
theorem w78_15 : (w78 (l, D, cI, cZ) h t w p s n g r ra m f5 f6 f2 f4 f1 f0 f8)[p78 15]? = some (sw_ad (x78 l D cI cZ h t w p s n g r ra m f5 f6 f2 f4 f1 f0 f8) 15, sw_cell (x78 l D cI cZ h t w p s n g r ra m f5 f6 f2 f4 f1 f0 f8) s78 15) := rfl
theorem w78_16 : (w78 (l, D, cI, cZ) h t w p s n g r ra m f5 f6 f2 f4 f1 f0 f8)[p78 16]? = some (sw_ad (x78 l D cI cZ h t w p s n g r ra m f5 f6 f2 f4 f1 f0 f8) 16, sw_cell (x78 l D cI cZ h t w p s n g r ra m f5 f6 f2 f4 f1 f0 f8) s78 16) := rfl
theorem w78_17 : (w78 (l, D, cI, cZ) h t w p s n g r ra m f5 f6 f2 f4 f1 f0 f8)[p78 17]? = some (sw_ad (x78 l D cI cZ h t w p s n g r ra m f5 f6 f2 f4 f1 f0 f8) 17, sw_cell (x78 l D cI cZ h t w p s n g r ra m f5 f6 f2 f4 f1 f0 f8) s78 17) := rfl
theorem w78_18 : (w78 (l, D, cI, cZ) h t w p s n g r ra m f5 f6 f2 f4 f1 f0 f8)[p78 18]? = some (sw_ad (x78 l D cI cZ h t w p s n g r ra m f5 f6 f2 f4 f1 f0 f8) 18, sw_cell (x78 l D cI cZ h t w p s n g r ra m f5 f6 f2 f4 f1 f0 f8) s78 18) := rfl
theorem w78_19 : (w78 (l, D, cI, cZ) h t w p s n g r ra m f5 f6 f2 f4 f1 f0 f8)[p78 19]? = some (sw_ad (x78 l D cI cZ h t w p s n g r ra m f5 f6 f2 f4 f1 f0 f8) 19, sw_cell (x78 l D cI cZ h t w p s n g r ra m f5 f6 f2 f4 f1 f0 f8) s78 19) := rfl
theorem w78_20 : (w78 (l, D, cI, cZ) h t w p s n g r ra m f5 f6 f2 f4 f1 f0 f8)[p78 20]? = some (sw_ad (x78 l D cI cZ h t w p s n g r ra m f5 f6 f2 f4 f1 f0 f8) 20, sw_cell (x78 l D cI cZ h t w p s n g r ra m f5 f6 f2 f4 f1 f0 f8) s78 20) := rfl
theorem w78_21 : (w78 (l, D, cI, cZ) h t w p s n g r ra m f5 f6 f2 f4 f1 f0 f8)[p78 21]? = some (sw_ad (x78 l D cI cZ h t w p s n g r ra m f5 f6 f2 f4 f1 f0 f8) 21, sw_cell (x78 l D cI cZ h t w p s n g r ra m f5 f6 f2 f4 f1 f0 f8) s78 21) := rfl
theorem w78_22 : (w78 (l, D, cI, cZ) h t w p s n g r ra m f5 f6 f2 f4 f1 f0 f8)[p78 22]? = some (sw_ad (x78 l D cI cZ h t w p s n g r ra m f5 f6 f2 f4 f1 f0 f8) 22, sw_cell (x78 l D cI cZ h t w p s n g r ra m f5 f6 f2 f4 f1 f0 f8) s78 22) := rfl
theorem w78_23 : (w78 (l, D, cI, cZ) h t w p s n g r ra m f5 f6 f2 f4 f1 f0 f8)[p78 23]? = some (sw_ad (x78 l D cI cZ h t w p s n g r ra m f5 f6 f2 f4 f1 f0 f8) 23, sw_cell (x78 l D cI cZ h t w p s n g r ra m f5 f6 f2 f4 f1 f0 f8) s78 23) := rfl
theorem w78_24 : (w78 (l, D, cI, cZ) h t w p s n g r ra m f5 f6 f2 f4 f1 f0 f8)[p78 24]? = some (sw_ad (x78 l D cI cZ h t w p s n g r ra m f5 f6 f2 f4 f1 f0 f8) 24, sw_cell (x78 l D cI cZ h t w p s n g r ra m f5 f6 f2 f4 f1 f0 f8) s78 24) := rfl
theorem w78_25 : (w78 (l, D, cI, cZ) h t w p s n g r ra m f5 f6 f2 f4 f1 f0 f8)[p78 25]? = some (sw_ad (x78 l D cI cZ h t w p s n g r ra m f5 f6 f2 f4 f1 f0 f8) 25, sw_cell (x78 l D cI cZ h t w p s n g r ra m f5 f6 f2 f4 f1 f0 f8) s78 25) := rfl
theorem w78_26 : (w78 (l, D, cI, cZ) h t w p s n g r ra m f5 f6 f2 f4 f1 f0 f8)[p78 26]? = some (sw_ad (x78 l D cI cZ h t w p s n g r ra m f5 f6 f2 f4 f1 f0 f8) 26, sw_cell (x78 l D cI cZ h t w p s n g r ra m f5 f6 f2 f4 f1 f0 f8) s78 26) := rfl
theorem w78_27 : (w78 (l, D, cI, cZ) h t w p s n g r ra m f5 f6 f2 f4 f1 f0 f8)[p78 27]? = some (sw_ad (x78 l D cI cZ h t w p s n g r ra m f5 f6 f2 f4 f1 f0 f8) 27, sw_cell (x78 l D cI cZ h t w p s n g r ra m f5 f6 f2 f4 f1 f0 f8) s78 27) := rfl
theorem w78_28 : (w78 (l, D, cI, cZ) h t w p s n g r ra m f5 f6 f2 f4 f1 f0 f8)[p78 28]? = some (sw_ad (x78 l D cI cZ h t w p s n g r ra m f5 f6 f2 f4 f1 f0 f8) 28, sw_cell (x78 l D cI cZ h t w p s n g r ra m f5 f6 f2 f4 f1 f0 f8) s78 28) := rfl
theorem w78_29 : (w78 (l, D, cI, cZ) h t w p s n g r ra m f5 f6 f2 f4 f1 f0 f8)[p78 29]? = some (sw_ad (x78 l D cI cZ h t w p s n g r ra m f5 f6 f2 f4 f1 f0 f8) 29, sw_cell (x78 l D cI cZ h t w p s n g r ra m f5 f6 f2 f4 f1 f0 f8) s78 29) := rfl
theorem w78_30 : (w78 (l, D, cI, cZ) h t w p s n g r ra m f5 f6 f2 f4 f1 f0 f8)[p78 30]? = some (sw_ad (x78 l D cI cZ h t w p s n g r ra m f5 f6 f2 f4 f1 f0 f8) 30, sw_cell (x78 l D cI cZ h t w p s n g r ra m f5 f6 f2 f4 f1 f0 f8) s78 30) := rfl
theorem w78_31 : (w78 (l, D, cI, cZ) h t w p s n g r ra m f5 f6 f2 f4 f1 f0 f8)[p78 31]? = some (sw_ad (x78 l D cI cZ h t w p s n g r ra m f5 f6 f2 f4 f1 f0 f8) 31, sw_cell (x78 l D cI cZ h t w p s n g r ra m f5 f6 f2 f4 f1 f0 f8) s78 31) := rfl
theorem w78_32 : (w78 (l, D, cI, cZ) h t w p s n g r ra m f5 f6 f2 f4 f1 f0 f8)[p78 32]? = some (sw_ad (x78 l D cI cZ h t w p s n g r ra m f5 f6 f2 f4 f1 f0 f8) 32, sw_cell (x78 l D cI cZ h t w p s n g r ra m f5 f6 f2 f4 f1 f0 f8) s78 32) := rfl
theorem w78_33 : (w78 (l, D, cI, cZ) h t w p s n g r ra m f5 f6 f2 f4 f1 f0 f8)[p78 33]? = some (sw_ad (x78 l D cI cZ h t w p s n g r ra m f5 f6 f2 f4 f1 f0 f8) 33, sw_cell (x78 l D cI cZ h t w p s n g r ra m f5 f6 f2 f4 f1 f0 f8) s78 33) := rfl
theorem w78_34 : (w78 (l, D, cI, cZ) h t w p s n g r ra m f5 f6 f2 f4 f1 f0 f8)[p78 34]? = some (sw_ad (x78 l D cI cZ h t w p s n g r ra m f5 f6 f2 f4 f1 f0 f8) 34, sw_cell (x78 l D cI cZ h t w p s n g r ra m f5 f6 f2 f4 f1 f0 f8) s78 34) := rfl
theorem w78_35 : (w78 (l, D, cI, cZ) h t w p s n g r ra m f5 f6 f2 f4 f1 f0 f8)[p78 35]? = some (sw_ad (x78 l D cI cZ h t w p s n g r ra m f5 f6 f2 f4 f1 f0 f8) 35, sw_cell (x78 l D cI cZ h t w p s n g r ra m f5 f6 f2 f4 f1 f0 f8) s78 35) := rfl
theorem w78_36 : (w78 (l, D, cI, cZ) h t w p s n g r ra m f5 f6 f2 f4 f1 f0 f8)[p78 36]? = some (sw_ad (x78 l D cI cZ h t w p s n g r ra m f5 f6 f2 f4 f1 f0 f8) 36, sw_cell (x78 l D cI cZ h t w p s n g r ra m f5 f6 f2 f4 f1 f0 f8) s78 36) := rfl
theorem w78_37 : (w78 (l, D, cI, cZ) h t w p s n g r ra m f5 f6 f2 f4 f1 f0 f8)[p78 37]? = some (sw_ad (x78 l D cI cZ h t w p s n g r ra m f5 f6 f2 f4 f1 f0 f8) 37, sw_cell (x78 l D cI cZ h t w p s n g r ra m f5 f6 f2 f4 f1 f0 f8) s78 37) := rfl
theorem w78_38 : (w78 (l, D, cI, cZ) h t w p s n g r ra m f5 f6 f2 f4 f1 f0 f8)[p78 38]? = some (sw_ad (x78 l D cI cZ h t w p s n g r ra m f5 f6 f2 f4 f1 f0 f8) 38, sw_cell (x78 l D cI cZ h t w p s n g r ra m f5 f6 f2 f4 f1 f0 f8) s78 38) := rfl
theorem w78_39 : (w78 (l, D, cI, cZ) h t w p s n g r ra m f5 f6 f2 f4 f1 f0 f8)[p78 39]? = some (sw_ad (x78 l D cI cZ h t w p s n g r ra m f5 f6 f2 f4 f1 f0 f8) 39, sw_cell (x78 l D cI cZ h t w p s n g r ra m f5 f6 f2 f4 f1 f0 f8) s78 39) := rfl
theorem w78_40 : (w78 (l, D, cI, cZ) h t w p s n g r ra m f5 f6 f2 f4 f1 f0 f8)[p78 40]? = some (sw_ad (x78 l D cI cZ h t w p s n g r ra m f5 f6 f2 f4 f1 f0 f8) 40, sw_cell (x78 l D cI cZ h t w p s n g r ra m f5 f6 f2 f4 f1 f0 f8) s78 40) := rfl
theorem w78_41 : (w78 (l, D, cI, cZ) h t w p s n g r ra m f5 f6 f2 f4 f1 f0 f8)[p78 41]? = some (sw_ad (x78 l D cI cZ h t w p s n g r ra m f5 f6 f2 f4 f1 f0 f8) 41, sw_cell (x78 l D cI cZ h t w p s n g r ra m f5 f6 f2 f4 f1 f0 f8) s78 41) := rfl
theorem w78_42 : (w78 (l, D, cI, cZ) h t w p s n g r ra m f5 f6 f2 f4 f1 f0 f8)[p78 42]? = some (sw_ad (x78 l D cI cZ h t w p s n g r ra m f5 f6 f2 f4 f1 f0 f8) 42, sw_cell (x78 l D cI cZ h t w p s n g r ra m f5 f6 f2 f4 f1 f0 f8) s78 42) := rfl
theorem w78_43 : (w78 (l, D, cI, cZ) h t w p s n g r ra m f5 f6 f2 f4 f1 f0 f8)[p78 43]? = some (sw_ad (x78 l D cI cZ h t w p s n g r ra m f5 f6 f2 f4 f1 f0 f8) 43, sw_cell (x78 l D cI cZ h t w p s n g r ra m f5 f6 f2 f4 f1 f0 f8) s78 43) := rfl
theorem w78_44 : (w78 (l, D, cI, cZ) h t w p s n g r ra m f5 f6 f2 f4 f1 f0 f8)[p78 44]? = some (sw_ad (x78 l D cI cZ h t w p s n g r ra m f5 f6 f2 f4 f1 f0 f8) 44, sw_cell (x78 l D cI cZ h t w p s n g r ra m f5 f6 f2 f4 f1 f0 f8) s78 44) := rfl
theorem w78_45 : (w78 (l, D, cI, cZ) h t w p s n g r ra m f5 f6 f2 f4 f1 f0 f8)[p78 45]? = some (sw_ad (x78 l D cI cZ h t w p s n g r ra m f5 f6 f2 f4 f1 f0 f8) 45, sw_cell (x78 l D cI cZ h t w p s n g r ra m f5 f6 f2 f4 f1 f0 f8) s78 45) := rfl
theorem w78_46 : (w78 (l, D, cI, cZ) h t w p s n g r ra m f5 f6 f2 f4 f1 f0 f8)[p78 46]? = some (sw_ad (x78 l D cI cZ h t w p s n g r ra m f5 f6 f2 f4 f1 f0 f8) 46, sw_cell (x78 l D cI cZ h t w p s n g r ra m f5 f6 f2 f4 f1 f0 f8) s78 46) := rfl
theorem w78_47 : (w78 (l, D, cI, cZ) h t w p s n g r ra m f5 f6 f2 f4 f1 f0 f8)[p78 47]? = some (sw_ad (x78 l D cI cZ h t w p s n g r ra m f5 f6 f2 f4 f1 f0 f8) 47, sw_cell (x78 l D cI cZ h t w p s n g r ra m f5 f6 f2 f4 f1 f0 f8) s78 47) := rfl
theorem w78_48 : (w78 (l, D, cI, cZ) h t w p s n g r ra m f5 f6 f2 f4 f1 f0 f8)[p78 48]? = some (sw_ad (x78 l D cI cZ h t w p s n g r ra m f5 f6 f2 f4 f1 f0 f8) 48, sw_cell (x78 l D cI cZ h t w p s n g r ra m f5 f6 f2 f4 f1 f0 f8) s78 48) := rfl
theorem w78_49 : (w78 (l, D, cI, cZ) h t w p s n g r ra m f5 f6 f2 f4 f1 f0 f8)[p78 49]? = some (sw_ad (x78 l D cI cZ h t w p s n g r ra m f5 f6 f2 f4 f1 f0 f8) 49, sw_cell (x78 l D cI cZ h t w p s n g r ra m f5 f6 f2 f4 f1 f0 f8) s78 49) := rfl
theorem w78_50 : (w78 (l, D, cI, cZ) h t w p s n g r ra m f5 f6 f2 f4 f1 f0 f8)[p78 50]? = some (sw_ad (x78 l D cI cZ h t w p s n g r ra m f5 f6 f2 f4 f1 f0 f8) 50, sw_cell (x78 l D cI cZ h t w p s n g r ra m f5 f6 f2 f4 f1 f0 f8) s78 50) := rfl
theorem w78_51 : (w78 (l, D, cI, cZ) h t w p s n g r ra m f5 f6 f2 f4 f1 f0 f8)[p78 51]? = some (sw_ad (x78 l D cI cZ h t w p s n g r ra m f5 f6 f2 f4 f1 f0 f8) 51, sw_cell (x78 l D cI cZ h t w p s n g r ra m f5 f6 f2 f4 f1 f0 f8) s78 51) := rfl
theorem w78_52 : (w78 (l, D, cI, cZ) h t w p s n g r ra m f5 f6 f2 f4 f1 f0 f8)[p78 52]? = some (sw_ad (x78 l D cI cZ h t w p s n g r ra m f5 f6 f2 f4 f1 f0 f8) 52, sw_cell (x78 l D cI cZ h t w p s n g r ra m f5 f6 f2 f4 f1 f0 f8) s78 52) := rfl
theorem w78_53 : (w78 (l, D, cI, cZ) h t w p s n g r ra m f5 f6 f2 f4 f1 f0 f8)[p78 53]? = some (sw_ad (x78 l D cI cZ h t w p s n g r ra m f5 f6 f2 f4 f1 f0 f8) 53, sw_cell (x78 l D cI cZ h t w p s n g r ra m f5 f6 f2 f4 f1 f0 f8) s78 53) := rfl
theorem w78_54 : (w78 (l, D, cI, cZ) h t w p s n g r ra m f5 f6 f2 f4 f1 f0 f8)[p78 54]? = some (sw_ad (x78 l D cI cZ h t w p s n g r ra m f5 f6 f2 f4 f1 f0 f8) 54, sw_cell (x78 l D cI cZ h t w p s n g r ra m f5 f6 f2 f4 f1 f0 f8) s78 54) := rfl
theorem w78_55 : (w78 (l, D, cI, cZ) h t w p s n g r ra m f5 f6 f2 f4 f1 f0 f8)[p78 55]? = some (sw_ad (x78 l D cI cZ h t w p s n g r ra m f5 f6 f2 f4 f1 f0 f8) 55, sw_cell (x78 l D cI cZ h t w p s n g r ra m f5 f6 f2 f4 f1 f0 f8) s78 55) := rfl
theorem w78_56 : (w78 (l, D, cI, cZ) h t w p s n g r ra m f5 f6 f2 f4 f1 f0 f8)[p78 56]? = some (sw_ad (x78 l D cI cZ h t w p s n g r ra m f5 f6 f2 f4 f1 f0 f8) 56, sw_cell (x78 l D cI cZ h t w p s n g r ra m f5 f6 f2 f4 f1 f0 f8) s78 56) := rfl
theorem w78_57 : (w78 (l, D, cI, cZ) h t w p s n g r ra m f5 f6 f2 f4 f1 f0 f8)[p78 57]? = some (sw_ad (x78 l D cI cZ h t w p s n g r ra m f5 f6 f2 f4 f1 f0 f8) 57, sw_cell (x78 l D cI cZ h t w p s n g r ra m f5 f6 f2 f4 f1 f0 f8) s78 57) := rfl
theorem w78_58 : (w78 (l, D, cI, cZ) h t w p s n g r ra m f5 f6 f2 f4 f1 f0 f8)[p78 58]? = some (sw_ad (x78 l D cI cZ h t w p s n g r ra m f5 f6 f2 f4 f1 f0 f8) 58, sw_cell (x78 l D cI cZ h t w p s n g r ra m f5 f6 f2 f4 f1 f0 f8) s78 58) := rfl
theorem w78_59 : (w78 (l, D, cI, cZ) h t w p s n g r ra m f5 f6 f2 f4 f1 f0 f8)[p78 59]? = some (sw_ad (x78 l D cI cZ h t w p s n g r ra m f5 f6 f2 f4 f1 f0 f8) 59, sw_cell (x78 l D cI cZ h t w p s n g r ra m f5 f6 f2 f4 f1 f0 f8) s78 59) := by
  rw [sw_cellO (show sw_sh 59 = .inr (8, [none, none, none, none, some 60, none, none, some 61, some 62, some 63, none, some 64, some 65, some 66, some 67, some 68, some 69, some 70, none, none, some 71, none, none, none, some 72, some 73, some 74, some 75, some 76, some 77]) from rfl), fsr_e]
  rfl
theorem w78_60 : (w78 (l, D, cI, cZ) h t w p s n g r ra m f5 f6 f2 f4 f1 f0 f8)[p78 60]? = some (sw_ad (x78 l D cI cZ h t w p s n g r ra m f5 f6 f2 f4 f1 f0 f8) 60, sw_cell (x78 l D cI cZ h t w p s n g r ra m f5 f6 f2 f4 f1 f0 f8) s78 60) := rfl
theorem w78_61 : (w78 (l, D, cI, cZ) h t w p s n g r ra m f5 f6 f2 f4 f1 f0 f8)[p78 61]? = some (sw_ad (x78 l D cI cZ h t w p s n g r ra m f5 f6 f2 f4 f1 f0 f8) 61, sw_cell (x78 l D cI cZ h t w p s n g r ra m f5 f6 f2 f4 f1 f0 f8) s78 61) := rfl
theorem w78_62 : (w78 (l, D, cI, cZ) h t w p s n g r ra m f5 f6 f2 f4 f1 f0 f8)[p78 62]? = some (sw_ad (x78 l D cI cZ h t w p s n g r ra m f5 f6 f2 f4 f1 f0 f8) 62, sw_cell (x78 l D cI cZ h t w p s n g r ra m f5 f6 f2 f4 f1 f0 f8) s78 62) := rfl
theorem w78_63 : (w78 (l, D, cI, cZ) h t w p s n g r ra m f5 f6 f2 f4 f1 f0 f8)[p78 63]? = some (sw_ad (x78 l D cI cZ h t w p s n g r ra m f5 f6 f2 f4 f1 f0 f8) 63, sw_cell (x78 l D cI cZ h t w p s n g r ra m f5 f6 f2 f4 f1 f0 f8) s78 63) := rfl
theorem w78_64 : (w78 (l, D, cI, cZ) h t w p s n g r ra m f5 f6 f2 f4 f1 f0 f8)[p78 64]? = some (sw_ad (x78 l D cI cZ h t w p s n g r ra m f5 f6 f2 f4 f1 f0 f8) 64, sw_cell (x78 l D cI cZ h t w p s n g r ra m f5 f6 f2 f4 f1 f0 f8) s78 64) := rfl
theorem w78_65 : (w78 (l, D, cI, cZ) h t w p s n g r ra m f5 f6 f2 f4 f1 f0 f8)[p78 65]? = some (sw_ad (x78 l D cI cZ h t w p s n g r ra m f5 f6 f2 f4 f1 f0 f8) 65, sw_cell (x78 l D cI cZ h t w p s n g r ra m f5 f6 f2 f4 f1 f0 f8) s78 65) := rfl
theorem w78_66 : (w78 (l, D, cI, cZ) h t w p s n g r ra m f5 f6 f2 f4 f1 f0 f8)[p78 66]? = some (sw_ad (x78 l D cI cZ h t w p s n g r ra m f5 f6 f2 f4 f1 f0 f8) 66, sw_cell (x78 l D cI cZ h t w p s n g r ra m f5 f6 f2 f4 f1 f0 f8) s78 66) := rfl
theorem w78_67 : (w78 (l, D, cI, cZ) h t w p s n g r ra m f5 f6 f2 f4 f1 f0 f8)[p78 67]? = some (sw_ad (x78 l D cI cZ h t w p s n g r ra m f5 f6 f2 f4 f1 f0 f8) 67, sw_cell (x78 l D cI cZ h t w p s n g r ra m f5 f6 f2 f4 f1 f0 f8) s78 67) := rfl
theorem w78_68 : (w78 (l, D, cI, cZ) h t w p s n g r ra m f5 f6 f2 f4 f1 f0 f8)[p78 68]? = some (sw_ad (x78 l D cI cZ h t w p s n g r ra m f5 f6 f2 f4 f1 f0 f8) 68, sw_cell (x78 l D cI cZ h t w p s n g r ra m f5 f6 f2 f4 f1 f0 f8) s78 68) := rfl
theorem w78_69 : (w78 (l, D, cI, cZ) h t w p s n g r ra m f5 f6 f2 f4 f1 f0 f8)[p78 69]? = some (sw_ad (x78 l D cI cZ h t w p s n g r ra m f5 f6 f2 f4 f1 f0 f8) 69, sw_cell (x78 l D cI cZ h t w p s n g r ra m f5 f6 f2 f4 f1 f0 f8) s78 69) := rfl
theorem w78_70 : (w78 (l, D, cI, cZ) h t w p s n g r ra m f5 f6 f2 f4 f1 f0 f8)[p78 70]? = some (sw_ad (x78 l D cI cZ h t w p s n g r ra m f5 f6 f2 f4 f1 f0 f8) 70, sw_cell (x78 l D cI cZ h t w p s n g r ra m f5 f6 f2 f4 f1 f0 f8) s78 70) := rfl
theorem w78_71 : (w78 (l, D, cI, cZ) h t w p s n g r ra m f5 f6 f2 f4 f1 f0 f8)[p78 71]? = some (sw_ad (x78 l D cI cZ h t w p s n g r ra m f5 f6 f2 f4 f1 f0 f8) 71, sw_cell (x78 l D cI cZ h t w p s n g r ra m f5 f6 f2 f4 f1 f0 f8) s78 71) := rfl
theorem w78_72 : (w78 (l, D, cI, cZ) h t w p s n g r ra m f5 f6 f2 f4 f1 f0 f8)[p78 72]? = some (sw_ad (x78 l D cI cZ h t w p s n g r ra m f5 f6 f2 f4 f1 f0 f8) 72, sw_cell (x78 l D cI cZ h t w p s n g r ra m f5 f6 f2 f4 f1 f0 f8) s78 72) := rfl
theorem w78_73 : (w78 (l, D, cI, cZ) h t w p s n g r ra m f5 f6 f2 f4 f1 f0 f8)[p78 73]? = some (sw_ad (x78 l D cI cZ h t w p s n g r ra m f5 f6 f2 f4 f1 f0 f8) 73, sw_cell (x78 l D cI cZ h t w p s n g r ra m f5 f6 f2 f4 f1 f0 f8) s78 73) := rfl
theorem w78_74 : (w78 (l, D, cI, cZ) h t w p s n g r ra m f5 f6 f2 f4 f1 f0 f8)[p78 74]? = some (sw_ad (x78 l D cI cZ h t w p s n g r ra m f5 f6 f2 f4 f1 f0 f8) 74, sw_cell (x78 l D cI cZ h t w p s n g r ra m f5 f6 f2 f4 f1 f0 f8) s78 74) := rfl
theorem w78_75 : (w78 (l, D, cI, cZ) h t w p s n g r ra m f5 f6 f2 f4 f1 f0 f8)[p78 75]? = some (sw_ad (x78 l D cI cZ h t w p s n g r ra m f5 f6 f2 f4 f1 f0 f8) 75, sw_cell (x78 l D cI cZ h t w p s n g r ra m f5 f6 f2 f4 f1 f0 f8) s78 75) := rfl
theorem w78_76 : (w78 (l, D, cI, cZ) h t w p s n g r ra m f5 f6 f2 f4 f1 f0 f8)[p78 76]? = some (sw_ad (x78 l D cI cZ h t w p s n g r ra m f5 f6 f2 f4 f1 f0 f8) 76, sw_cell (x78 l D cI cZ h t w p s n g r ra m f5 f6 f2 f4 f1 f0 f8) s78 76) := rfl
theorem w78_77 : (w78 (l, D, cI, cZ) h t w p s n g r ra m f5 f6 f2 f4 f1 f0 f8)[p78 77]? = some (sw_ad (x78 l D cI cZ h t w p s n g r ra m f5 f6 f2 f4 f1 f0 f8) 77, sw_cell (x78 l D cI cZ h t w p s n g r ra m f5 f6 f2 f4 f1 f0 f8) s78 77) := rfl
theorem w78_ok : ∀ k, k < 78 → (w78 (l, D, cI, cZ) h t w p s n g r ra m f5 f6 f2 f4 f1 f0 f8)[p78 k]? = some (sw_ad (x78 l D cI cZ h t w p s n g r ra m f5 f6 f2 f4 f1 f0 f8) k, sw_cell (x78 l D cI cZ h t w p s n g r ra m f5 f6 f2 f4 f1 f0 f8) s78 k) := by
  intro k hk
  match k, hk with
  | 0, _ => exact w78_0
  | 1, _ => exact w78_1
  | 2, _ => exact w78_2
  | 3, _ => exact w78_3
  | 4, _ => exact w78_4
  | 5, _ => exact w78_5
  | 6, _ => exact w78_6
  | 7, _ => exact w78_7
  | 8, _ => exact w78_8
  | 9, _ => exact w78_9
  | 10, _ => exact w78_10
  | 11, _ => exact w78_11
  | 12, _ => exact w78_12
  | 13, _ => exact w78_13
  | 14, _ => exact w78_14
  | 15, _ => exact w78_15
  | 16, _ => exact w78_16
  | 17, _ => exact w78_17
  | 18, _ => exact w78_18
  | 19, _ => exact w78_19
  | 20, _ => exact w78_20
  | 21, _ => exact w78_21
  | 22, _ => exact w78_22
  | 23, _ => exact w78_23
  | 24, _ => exact w78_24
  | 25, _ => exact w78_25
  | 26, _ => exact w78_26
  | 27, _ => exact w78_27
  | 28, _ => exact w78_28
  | 29, _ => exact w78_29
  | 30, _ => exact w78_30
  | 31, _ => exact w78_31
  | 32, _ => exact w78_32
  | 33, _ => exact w78_33
  | 34, _ => exact w78_34
  | 35, _ => exact w78_35
  | 36, _ => exact w78_36
  | 37, _ => exact w78_37
  | 38, _ => exact w78_38
  | 39, _ => exact w78_39
  | 40, _ => exact w78_40
  | 41, _ => exact w78_41
  | 42, _ => exact w78_42
  | 43, _ => exact w78_43
  | 44, _ => exact w78_44
  | 45, _ => exact w78_45
  | 46, _ => exact w78_46
  | 47, _ => exact w78_47
  | 48, _ => exact w78_48
  | 49, _ => exact w78_49
  | 50, _ => exact w78_50
  | 51, _ => exact w78_51
  | 52, _ => exact w78_52
  | 53, _ => exact w78_53
  | 54, _ => exact w78_54
  | 55, _ => exact w78_55
  | 56, _ => exact w78_56
  | 57, _ => exact w78_57
  | 58, _ => exact w78_58
  | 59, _ => exact w78_59
  | 60, _ => exact w78_60
  | 61, _ => exact w78_61
  | 62, _ => exact w78_62
  | 63, _ => exact w78_63
  | 64, _ => exact w78_64
  | 65, _ => exact w78_65
  | 66, _ => exact w78_66
  | 67, _ => exact w78_67
  | 68, _ => exact w78_68
  | 69, _ => exact w78_69
  | 70, _ => exact w78_70
  | 71, _ => exact w78_71
  | 72, _ => exact w78_72
  | 73, _ => exact w78_73
  | 74, _ => exact w78_74
  | 75, _ => exact w78_75
  | 76, _ => exact w78_76
  | 77, _ => exact w78_77
  | k + 78, h => exact absurd h (by omega)
theorem w78_P {H : Heap} (hP : va_P D vwCl (w78 (l, D, cI, cZ) h t w p s n g r ra m f5 f6 f2 f4 f1 f0 f8) H) : sw_P (x78 l D cI cZ h t w p s n g r ra m f5 f6 f2 f4 f1 f0 f8) s78 H := by
  refine va_P.by hP p78 (fun k q hq => ?_)
  obtain ⟨hk, rfl⟩ := sw_ws_at hq
  exact w78_ok k hk
theorem w78_D {Ap : Nat → Prop} (hD : va_D Ap (w78 (l, D, cI, cZ) h t w p s n g r ra m f5 f6 f2 f4 f1 f0 f8)) : sw_dis (x78 l D cI cZ h t w p s n g r ra m f5 f6 f2 f4 f1 f0 f8) ∧ ∀ i, i < 78 → Ap (sw_ad (x78 l D cI cZ h t w p s n g r ra m f5 f6 f2 f4 f1 f0 f8) i) := by
  refine ⟨fun i j hi hj e => ?_, fun i hi => hD.2 _ _ (w78_ok i hi)⟩
  have := hD.1 _ _ _ _ (w78_ok i hi) (w78_ok j hj) e
  rw [← q78_p i hi, this, q78_p j hj]
end W78
/-- at first both have the same numbers -/
theorem s78_J : J_ s78 := by
  refine (show jI_ 12 0 0 0 80 4 20 0 0 s78 from ⟨⟨⟨?_, ?_, ?_, ?_, ?_⟩, rfl, by omega, fun z => by omega, fun z => by omega, fun z => by omega, fun z => by omega⟩, ⟨⟨?_, ?_, ?_, ?_, ?_⟩, Or.inl rfl⟩, rfl, rfl, fun j hj => by omega⟩).J
  · exact ⟨by omega, by omega, rfl, rfl⟩
  · exact ⟨rfl, by omega, rfl, by omega⟩
  · exact ⟨rfl, by omega, fun k hk => by omega⟩
  · exact ⟨rfl, by omega, rfl, by omega, by omega, rfl, by omega⟩
  · exact ⟨rfl, by omega⟩
  · exact ⟨by omega, by omega, rfl⟩
  · exact ⟨rfl, by omega, rfl, by omega⟩
  · exact ⟨rfl, by omega, fun k hk => by omega⟩
  · exact ⟨rfl, by omega, rfl, by omega, by omega, rfl, by omega⟩
  · exact ⟨rfl, by omega⟩
