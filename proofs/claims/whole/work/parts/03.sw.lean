/-! THE WORLD of the law's loop: 78 cells, the same objects and arrays from the constructors' end on. sw_Sg: what the ints in them are (cell, place). SW: a method of ours stands at pc with locals L, stack st, ints σ; what comes back is R. -/
abbrev sw_Sg : Type := Nat → Nat → Int32
abbrev sw_Sh : Type := (Bool × Nat) ⊕ (Nat × List (Option Nat))
def sw_shl : List sw_Sh := [
  .inr (7, [some 1, some 2, some 3, some 4, some 5, some 6, some 7, none, none]),
  .inr (5, [none, none, none, none, none, none, some 8, some 9, some 10, some 11, some 12, some 13, some 14]),
  .inr (6, [some 15, some 16, some 17, some 18, some 19, some 20, some 21, some 22, none]),
  .inr (2, [some 23, some 24, some 25, none]),
  .inr (4, [some 26, some 27, none]),
  .inr (1, [some 28, some 29, some 30, some 31, none, none, none, none]),
  .inr (0, [some 32, none, none]),
  .inr (3, [some 33]),
  .inr (3, [some 34]),
  .inr (3, [some 35]),
  .inr (3, [some 36]),
  .inr (3, [some 37]),
  .inr (3, [some 38]),
  .inr (3, [some 39]),
  .inr (3, [some 40]),
  .inr (3, [some 41]),
  .inr (3, [some 42]),
  .inr (3, [some 43]),
  .inr (3, [some 44]),
  .inr (3, [some 45]),
  .inr (3, [some 46]),
  .inr (3, [some 47]),
  .inr (3, [some 48]),
  .inr (3, [some 49]),
  .inr (3, [some 50]),
  .inr (3, [some 51]),
  .inr (3, [some 52]),
  .inr (3, [some 53]),
  .inr (3, [some 54]),
  .inr (3, [some 55]),
  .inr (3, [some 56]),
  .inr (3, [some 57]),
  .inr (3, [some 58]),
  .inl (false, 4),
  .inl (false, 30),
  .inl (false, 30),
  .inl (false, 30),
  .inl (false, 576),
  .inl (false, 576),
  .inl (false, 576),
  .inl (false, 576),
  .inl (false, 576),
  .inl (false, 576),
  .inl (false, 576),
  .inl (false, 576),
  .inl (false, 576),
  .inl (false, 576),
  .inl (false, 576),
  .inl (false, 576),
  .inl (false, 576),
  .inl (false, 576),
  .inl (false, 576),
  .inl (false, 576),
  .inl (false, 6),
  .inl (false, 3456),
  .inl (false, 576),
  .inl (false, 6),
  .inl (false, 12),
  .inl (false, 2308),
  .inr (8, [none, none, none, none, some 60, none, none, some 61, some 62, some 63, none, some 64, some 65, some 66, some 67, some 68, some 69, some 70, none, none, some 71, none, none, none, some 72, some 73, some 74, some 75, some 76, some 77]),
  .inl (false, 4),
  .inl (false, 30),
  .inl (false, 30),
  .inl (false, 30),
  .inl (false, 576),
  .inl (false, 576),
  .inl (false, 576),
  .inl (false, 576),
  .inl (false, 576),
  .inl (false, 576),
  .inl (false, 576),
  .inl (false, 6),
  .inl (false, 6),
  .inl (false, 6),
  .inl (false, 576),
  .inl (false, 576),
  .inl (true, 576),
  .inl (false, 576)]
def sw_sh (i : Nat) : sw_Sh := sw_shl.getD i (.inl (false, 0))
abbrev sw_X : Type := Launch × va_G × (Nat → Nat) × ClassId × ClassId
def sw_ad (X : sw_X) (i : Nat) : Nat := X.2.2.1 i
abbrev sw_fs (ad : Nat → Nat) (f : Nat → Int32) (fk : List (Option Nat)) : List Value := fk.mapIdx fun k o => match o with
  | none => .int (f k)
  | some j => .ref (ad j)
def sw_cell (X : sw_X) (σ : sw_Sg) (i : Nat) : va_E := match sw_sh i with
  | .inl q => .inl (if q.1 = true then X.2.2.2.2 else X.2.2.2.1, q.2, .inl (σ i))
  | .inr q => .inr (q.1, sw_fs (sw_ad X) (σ i) q.2)
def sw_ws (X : sw_X) (σ : sw_Sg) : va_W := (List.range 78).map fun i => (sw_ad X i, sw_cell X σ i)
theorem sw_ws_get {X : sw_X} {σ : sw_Sg} {i : Nat} (h : i < 78) : (sw_ws X σ)[i]? = some (sw_ad X i, sw_cell X σ i) := by
  simp [sw_ws, h]
theorem sw_ws_at {X : sw_X} {σ : sw_Sg} {i : Nat} {q : Nat × va_E} (h : (sw_ws X σ)[i]? = some q) : i < 78 ∧ q = (sw_ad X i, sw_cell X σ i) := by
  have hi : i < 78 := by
    have := (List.getElem?_eq_some_iff.mp h).1
    simpa [sw_ws] using this
  rw [sw_ws_get hi] at h
  exact ⟨hi, (Option.some.inj h).symm⟩
theorem sw_ws_set {X : sw_X} {σ σ' : sw_Sg} {i : Nat} (h : i < 78) (ho : ∀ j, j ≠ i → σ' j = σ j) : (sw_ws X σ).set i (sw_ad X i, sw_cell X σ' i) = sw_ws X σ' := by
  apply List.ext_getElem?
  intro j
  rw [List.getElem?_set]
  by_cases hj : i = j
  · subst hj
    have : i < (sw_ws X σ).length := by simp [sw_ws, h]
    rw [if_pos rfl, if_pos this, sw_ws_get h]
  · rw [if_neg hj]
    by_cases h78 : j < 78
    · rw [sw_ws_get h78, sw_ws_get h78]
      have : σ' j = σ j := ho j (fun e => hj e.symm)
      unfold sw_cell
      rw [this]
    · have e1 : (sw_ws X σ)[j]? = none := by simp [sw_ws]; omega
      have e2 : (sw_ws X σ')[j]? = none := by simp [sw_ws]; omega
      rw [e1, e2]
theorem sw_sh_lt {i ci : Nat} {fk : List (Option Nat)} (h : sw_sh i = .inr (ci, fk)) : i < 78 := by
  rcases Nat.lt_or_ge i 78 with h1 | h1
  · exact h1
  · have : sw_shl.length ≤ i := h1
    simp [sw_sh, List.getD, List.getElem?_eq_none this] at h
theorem sw_sh_ltA {i n : Nat} {b : Bool} (h : sw_sh i = .inl (b, n)) (hn : 0 < n) : i < 78 := by
  rcases Nat.lt_or_ge i 78 with h1 | h1
  · exact h1
  · have : sw_shl.length ≤ i := h1
    simp [sw_sh, List.getD, List.getElem?_eq_none this] at h
    omega
theorem sw_cellO {X : sw_X} {σ : sw_Sg} {i ci : Nat} {fk : List (Option Nat)} (h : sw_sh i = .inr (ci, fk)) : sw_cell X σ i = .inr (ci, sw_fs (sw_ad X) (σ i) fk) := by
  unfold sw_cell
  rw [h]
theorem sw_cellA {X : sw_X} {σ : sw_Sg} {i n : Nat} {b : Bool} (h : sw_sh i = .inl (b, n)) : sw_cell X σ i = .inl (if b = true then X.2.2.2.2 else X.2.2.2.1, n, .inl (σ i)) := by
  unfold sw_cell
  rw [h]
/-- one int of one cell becomes v -/
def sw_up (σ : sw_Sg) (i k : Nat) (v : Int32) : sw_Sg := va_up σ i (upd (σ i) k v)
theorem sw_up_o {σ : sw_Sg} {i k : Nat} {v : Int32} : ∀ j, j ≠ i → sw_up σ i k v j = σ j := fun j h => by simp [sw_up, va_up, h]
theorem sw_up_i {σ : sw_Sg} {i k : Nat} {v : Int32} : sw_up σ i k v i = upd (σ i) k v := by simp [sw_up, va_up]
theorem sw_fs_set {ad : Nat → Nat} {f : Nat → Int32} {fk : List (Option Nat)} {k : Nat} {v : Int32} (h : fk[k]? = some none) : (sw_fs ad f fk).set k (.int v) = sw_fs ad (upd f k v) fk := by
  apply List.ext_getElem?
  intro j
  rw [List.getElem?_set]
  by_cases hj : k = j
  · subst hj
    have hl : k < fk.length := (List.getElem?_eq_some_iff.mp h).1
    rw [if_pos rfl, if_pos (by simpa [sw_fs] using hl)]
    simp [sw_fs, h, upd]
  · rw [if_neg hj]
    simp only [sw_fs, List.getElem?_mapIdx]
    cases hq : fk[j]? with
    | none => rfl
    | some o =>
      cases o with
      | none => simp [upd, Ne.symm hj]
      | some b => rfl
theorem sw_fs_int {ad : Nat → Nat} {f : Nat → Int32} {fk : List (Option Nat)} {k : Nat} (h : fk[k]? = some none) : (sw_fs ad f fk)[k]? = some (.int (f k)) := by simp [sw_fs, h]
theorem sw_fs_ref {ad : Nat → Nat} {f : Nat → Int32} {fk : List (Option Nat)} {k j : Nat} (h : fk[k]? = some (some j)) : (sw_fs ad f fk)[k]? = some (.ref (ad j)) := by simp [sw_fs, h]
/-! the tables' words -/
def sw_W : List Cond := lw_tbl.filter goodWord
theorem sw_in {w : Cond} (h : w ∈ lw_tbl) (g : goodWord w = true) : w ∈ sw_W := List.mem_filter.mpr ⟨h, g⟩
theorem sw_good {w : Cond} (h : w ∈ sw_W) : (w.onTables && w.keeps) = true ∨ ∃ ty, w = .arrayClass ty := good_of_word (List.mem_filter.mp h).2
def sw_isNest : Cond → Bool
  | .fieldLinkNest _ _ _ _ _ _ => true
  | .methodLinkNest _ _ _ _ => true
  | _ => false
def sw_N (U : State) : Prop := ∀ w ∈ lw_tbl, sw_isNest w = true → va_Nw w U
theorem sw_N.warm {s U : State} (hW : s.WarmedH U.vm) (h : sw_N s) : sw_N U := by
  intro w hw hn
  have h1 := h w hw hn
  cases w <;> first | exact va_Nw.warmF hW h1 | exact va_Nw.warmM hW h1 | exact absurd hn (by simp [sw_isNest])
theorem sw_N.of {args : Array Value} {U : State} (h : ∀ w ∈ lw_tbl, w.before args U = true) : sw_N U := by
  intro w hw hn
  have h1 := h w hw
  cases w <;> first | exact va_Nw.of rfl h1 | exact absurd hn (by simp [sw_isNest])
abbrev sw_tys (X : sw_X) : List (ClassId × FieldType) := [(X.2.2.2.1, .int), (X.2.2.2.2, .boolean)]
def sw_K (X : sw_X) (U : State) : Prop := va_K X.2.1 vwCl (sw_tys X) U ∧ sw_N U
theorem sw_K.warm {X : sw_X} {s U : State} (hW : s.WarmedH U.vm) (h : sw_K X s) : sw_K X U := ⟨va_K.moved hW.alike h.1, h.2.warm hW⟩
def sw_P (X : sw_X) (σ : sw_Sg) (H : Heap) : Prop := va_P X.2.1 vwCl (sw_ws X σ) H
def sw_dis (X : sw_X) : Prop := ∀ i j, i < 78 → j < 78 → sw_ad X i = sw_ad X j → i = j
def sw_A (X : sw_X) (sz : Nat) : Nat → Prop := fun q => (∃ i, i < 78 ∧ q = sw_ad X i) ∨ sz ≤ q
theorem sw_D {X : sw_X} {σ : sw_Sg} {sz : Nat} (h : sw_dis X) : va_D (sw_A X sz) (sw_ws X σ) := by
  refine ⟨fun i j p q hp hq e => ?_, fun k q hq => ?_⟩
  · obtain ⟨h1, rfl⟩ := sw_ws_at hp
    obtain ⟨h2, rfl⟩ := sw_ws_at hq
    exact h i j h1 h2 e
  · obtain ⟨h1, rfl⟩ := sw_ws_at hq
    exact Or.inl ⟨k, h1, rfl⟩
/-! a method: its name, bytes, locals, what it answers -/
abbrev sw_Me : Type := MethodName × ByteArray × Nat × Option FieldType
abbrev sw_rm (d : Nat) : Room := { frames := d, cells := 0, slots := 0, locals := 38 * d }
abbrev sw_wm (me : sw_Me) : List Cond := .code me.1 me.2.1 me.2.2.1 me.2.2.2 :: sw_W
def sw_Pc (X : sw_X) (E : State → Prop) (args : List Value) (σ : sw_Sg) (sz : Nat) : Array Value → State → Prop := va_Pc args fun U => U.heap.size = sz ∧ sw_P X σ U.heap ∧ sw_K X U ∧ sw_dis X ∧ E U
def sw_Q (X : sw_X) (sz : Nat) (R : Option Value → sw_Sg → Prop) : Array Value → State → Outcome → State → Prop := fun _ st oc t => (∃ (r : Option Value) (σ' : sw_Sg), oc = .returned r ∧ R r σ' ∧ sw_P X σ' t.heap) ∧ va_F (sw_A X sz) st t
/-- the contract of a method, called at these ints with these arguments, at most d calls deep -/
def sw_ME (X : sw_X) (d : Nat) (E : State → Prop) (me : sw_Me) (args : List Value) (σ : sw_Sg) (R : Option Value → sw_Sg → Prop) : Prop :=
  ∀ sz : Nat, Met X.1 me.1 (sw_wm me) (sw_rm d) (sw_Pc X E args σ sz) (sw_Q X sz R) 0 0 (sw_A X sz)
abbrev sw_E0 : State → Prop := fun _ => True
abbrev sw_M (X : sw_X) (d : Nat) (me : sw_Me) (args : List Value) (σ : sw_Sg) (R : Option Value → sw_Sg → Prop) : Prop := sw_ME X d sw_E0 me args σ R
abbrev sw_Ri (R : Int32 → sw_Sg → Prop) : Option Value → sw_Sg → Prop := fun r u => ∃ v, r = some (.int v) ∧ R v u
abbrev sw_Rv (R : sw_Sg → Prop) : Option Value → sw_Sg → Prop := fun r u => r = none ∧ R u
/-- answers an int -/
abbrev sw_Mi (X : sw_X) (d : Nat) (me : sw_Me) (args : List Value) (σ : sw_Sg) (R : Int32 → sw_Sg → Prop) : Prop := sw_M X d me args σ (sw_Ri R)
/-- answers nothing -/
abbrev sw_Mv (X : sw_X) (d : Nat) (me : sw_Me) (args : List Value) (σ : sw_Sg) (R : sw_Sg → Prop) : Prop := sw_M X d me args σ (sw_Rv R)
/-- the locals: place by place, .null where nothing is known -/
def sw_has (ls : Array Slot) (nL : Nat) (L : List Value) : Prop := ls.size = nL ∧ lv_wf ls ∧ ∀ (i : Nat) (v : Value), L[i]? = some v → v ≠ .null → ls[i]? = some (.val v) ∧ v.category = 1
def sw_C (X : sw_X) (d : Nat) (me : sw_Me) (E : State → Prop) (σ : sw_Sg) (p : Program) (s : State) (m : MethodId) (args : Array Value) (meth : Method) (c : Code) (H : Heap) (locs : List Loc) : Prop :=
  p.tables.exec = Jvm.exec ∧ c.code = me.2.1 ∧ meth.sig.returnType = me.2.2.2 ∧ c.maxLocals = me.2.2.1 ∧ s.vm.findClass me.1.cls = some m.cls ∧ (∀ w ∈ sw_W, w.before args s = true) ∧ meth.locks = false ∧ sw_K X s ∧ sw_dis X ∧ E s ∧ sw_P X σ H ∧ va_S (sw_A X s.heap.size) s.heap H locs
def SW (X : sw_X) (d : Nat) (me : sw_Me) (E : State → Prop) (R : Option Value → sw_Sg → Prop) (pc : Nat) (L : List Value) (st : List Value) (σ : sw_Sg) : Prop :=
  ∀ (p : Program) (e : Env) (s : State) (m : MethodId) (args : Array Value) (below : List Frame) (meth : Method) (c : Code) (H : Heap) (locs : List Loc) (ls : Array Slot),
    sw_C X d me E σ p s m args meth c H locs → sw_has ls me.2.2.1 L → W p X.1 e (sw_rm d) s m args below meth c H locs 0 0 (MQ below (sw_Q X s.heap.size R) args s 0 0 (sw_A X s.heap.size)) (F0 m pc ls st)
theorem sw_has.get {ls : Array Slot} {nL : Nat} {L : List Value} (h : sw_has ls nL L) {i : Nat} {v : Value} (hi : L[i]? = some v) (hv : v ≠ .null) : ls[i]? = some (.val v) := (h.2.2 i v hi hv).1
theorem sw_has.lv {ls : Array Slot} {nL : Nat} {L : List Value} (h : sw_has ls nL L) : lv_has ls nL [] := ⟨h.1, h.2.1, fun q hq => by cases hq⟩
theorem sw_L_ok (L : List Value) (i : Nat) (x : Value) (k : Nat) (q : Nat × Value) (hq : ((L.zipIdx k).filterMap (fun a => if a.1 = .null then none else some (a.2, a.1)))[i]? = some q) : k ≤ q.1 ∧ L[q.1 - k]? = some q.2 ∧ q.2 ≠ .null := by
  have hm := List.mem_of_getElem? hq
  obtain ⟨a, ha, hb⟩ := List.mem_filterMap.mp hm
  have := List.mem_zipIdx_iff_le_and_getElem?_sub.mp ha
  by_cases hz : a.1 = .null
  · rw [if_pos hz] at hb
    cases hb
  · rw [if_neg hz] at hb
    cases hb
    exact ⟨this.1, this.2, hz⟩
/-- storing in a local of one slot -/
theorem sw_has.store {ls : Array Slot} {nL : Nat} {L : List Value} (h : sw_has ls nL L) {i : Nat} {v : Value} (hi : i < nL) (hc : v.category = 1) : ∃ ls', storeLocals ls i v = some ls' ∧ sw_has ls' nL (L.set i v) := by
  have hl : lv_has ls nL ((L.zipIdx 0).filterMap (fun a => if a.1 = .null then none else some (a.2, a.1))) := by
    refine ⟨h.1, h.2.1, fun q hq => ?_⟩
    obtain ⟨j, hj⟩ := List.getElem?_of_mem hq
    obtain ⟨-, h2, h3⟩ := sw_L_ok L j .null 0 q hj
    exact h.get (by simpa using h2) h3
  obtain ⟨ls', e', h'⟩ := lv_store1 hl hi hc
  refine ⟨ls', e', h'.1, h'.2.1, fun j w hj hw => ?_⟩
  rw [List.getElem?_set] at hj
  by_cases hij : i = j
  · subst hij
    rw [if_pos rfl] at hj
    split at hj
    · cases hj
      exact ⟨h'.2.2 (i, v) List.mem_cons_self, hc⟩
    · cases hj
  · rw [if_neg hij] at hj
    have hcat := (h.2.2 j w hj hw).2
    refine ⟨h'.2.2 (j, w) (List.mem_cons_of_mem _ (List.mem_filter.mpr ⟨?_, ?_⟩)), hcat⟩
    · refine List.mem_filterMap.mpr ⟨(w, j), ?_, ?_⟩
      · exact List.mem_zipIdx_iff_le_and_getElem?_sub.mpr ⟨Nat.zero_le _, by simpa using hj⟩
      · simp [hw]
    · simp [Ne.symm hij, hcat]
section SWR
variable {X : sw_X} {d : Nat} {me : sw_Me} {E : State → Prop} {R : Option Value → sw_Sg → Prop} {pc q : Nat} {L st rest : List Value} {σ : sw_Sg} {x y : Int32}
theorem SW.iconst {n : Int} {v : Int32} (hd : decode me.2.1 pc = .ok (.iconst n, 1)) (hv : Int32.ofInt n = v) (hq : pc + 1 = q) (kk : SW X d me E R q L (.int v :: st) σ) : SW X d me E R pc L st σ := by
  subst hq
  intro p e s m args below meth c H locs ls C hl
  exact lv_iconst C.1 C.2.1 hd hv (kk p e s m args below meth c H locs ls C hl)
theorem SW.bipush {n : Int} {v : Int32} (hd : decode me.2.1 pc = .ok (.bipush n, 2)) (hv : (Int8.ofInt n).toInt32 = v) (hq : pc + 2 = q) (kk : SW X d me E R q L (.int v :: st) σ) : SW X d me E R pc L st σ := by
  subst hq
  intro p e s m args below meth c H locs ls C hl
  exact lv_bipush C.1 C.2.1 hd hv (kk p e s m args below meth c H locs ls C hl)
theorem SW.sipush {n : Int} {v : Int32} (hd : decode me.2.1 pc = .ok (.sipush n, 3)) (hv : (Int16.ofInt n).toInt32 = v) (hq : pc + 3 = q) (kk : SW X d me E R q L (.int v :: st) σ) : SW X d me E R pc L st σ := by
  subst hq
  intro p e s m args below meth c H locs ls C hl
  exact lv_sipush C.1 C.2.1 hd hv (kk p e s m args below meth c H locs ls C hl)
theorem SW.ldc {k : Nat} {v : Int32} (hw : Cond.constant me.1.cls k v ∈ sw_W) (hd : decode me.2.1 pc = .ok (.ldc k, 2)) (hq : pc + 2 = q) (kk : SW X d me E R q L (.int v :: st) σ) : SW X d me E R pc L st σ := by
  subst hq
  intro p e s m args below meth c H locs ls C hl
  exact lv_ldc C.1 C.2.1 C.2.2.2.2.1 (C.2.2.2.2.2.1 _ hw) hd (kk p e s m args below meth c H locs ls C hl)
theorem SW.ldcw {k : Nat} {v : Int32} (hw : Cond.constant me.1.cls k v ∈ sw_W) (hd : decode me.2.1 pc = .ok (.ldc_w k, 3)) (hq : pc + 3 = q) (kk : SW X d me E R q L (.int v :: st) σ) : SW X d me E R pc L st σ := by
  subst hq
  intro p e s m args below meth c H locs ls C hl
  exact lv_ldcw C.1 C.2.1 C.2.2.2.2.1 (C.2.2.2.2.2.1 _ hw) hd (kk p e s m args below meth c H locs ls C hl)
theorem SW.iload_n {k : Fin 4} {i : Nat} (hd : decode me.2.1 pc = .ok (.iload_n k, 1)) (hi : (k : Nat) = i) (hL : L[i]? = some (.int x)) (hq : pc + 1 = q) (kk : SW X d me E R q L (.int x :: st) σ) : SW X d me E R pc L st σ := by
  subst hq
  intro p e s m args below meth c H locs ls C hl
  exact lv_iload_n C.1 C.2.1 hd hi (hl.get hL (fun h => by cases h)) (kk p e s m args below meth c H locs ls C hl)
theorem SW.iload {i : Nat} (hd : decode me.2.1 pc = .ok (.iload i, 2)) (hL : L[i]? = some (.int x)) (hq : pc + 2 = q) (kk : SW X d me E R q L (.int x :: st) σ) : SW X d me E R pc L st σ := by
  subst hq
  intro p e s m args below meth c H locs ls C hl
  exact lv_iload C.1 C.2.1 hd (hl.get hL (fun h => by cases h)) (kk p e s m args below meth c H locs ls C hl)
theorem SW.aload_n {k : Fin 4} {i a : Nat} (hd : decode me.2.1 pc = .ok (.aload_n k, 1)) (hi : (k : Nat) = i) (hL : L[i]? = some (.ref a)) (hq : pc + 1 = q) (kk : SW X d me E R q L (.ref a :: st) σ) : SW X d me E R pc L st σ := by
  subst hq
  intro p e s m args below meth c H locs ls C hl
  exact lv_aload_n C.1 C.2.1 hd hi (hl.get hL (fun h => by cases h)) (kk p e s m args below meth c H locs ls C hl)
theorem SW.aload {i a : Nat} (hd : decode me.2.1 pc = .ok (.aload i, 2)) (hL : L[i]? = some (.ref a)) (hq : pc + 2 = q) (kk : SW X d me E R q L (.ref a :: st) σ) : SW X d me E R pc L st σ := by
  subst hq
  intro p e s m args below meth c H locs ls C hl
  exact lv_aload C.1 C.2.1 hd (hl.get hL (fun h => by cases h)) (kk p e s m args below meth c H locs ls C hl)
theorem SW.istore_n {k : Fin 4} {i : Nat} (hd : decode me.2.1 pc = .ok (.istore_n k, 1)) (hi : (k : Nat) = i) (hn : i < me.2.2.1) (hq : pc + 1 = q) (kk : SW X d me E R q (L.set i (.int x)) st σ) : SW X d me E R pc L (.int x :: st) σ := by
  subst hq; subst hi
  intro p e s m args below meth c H locs ls C hl
  obtain ⟨ls', e', h'⟩ := hl.store (v := .int x) hn rfl
  intro T hT X
  obtain ⟨t, a, b⟩ := kk p e s m args below meth c H locs ls' C h' T hT X
  refine ⟨t, ?_, b⟩
  have hexec := C.1
  have hb := C.2.1
  jvm_step X.here [X.here.top, ↓top_set X.here.top, hexec, hb, hd, e']
  exact a
theorem SW.istore {i : Nat} (hd : decode me.2.1 pc = .ok (.istore i, 2)) (hn : i < me.2.2.1) (hq : pc + 2 = q) (kk : SW X d me E R q (L.set i (.int x)) st σ) : SW X d me E R pc L (.int x :: st) σ := by
  subst hq
  intro p e s m args below meth c H locs ls C hl
  obtain ⟨ls', e', h'⟩ := hl.store (v := .int x) hn rfl
  intro T hT X
  obtain ⟨t, a, b⟩ := kk p e s m args below meth c H locs ls' C h' T hT X
  refine ⟨t, ?_, b⟩
  have hexec := C.1
  have hb := C.2.1
  jvm_step X.here [X.here.top, ↓top_set X.here.top, hexec, hb, hd, e']
  exact a
theorem SW.iinc {i : Nat} {n : Int} {v : Int32} (hd : decode me.2.1 pc = .ok (.iinc i n, 3)) (hL : L[i]? = some (.int x)) (hv : x + Int32.ofInt n = v) (hn : i < me.2.2.1) (hq : pc + 3 = q) (kk : SW X d me E R q (L.set i (.int v)) st σ) : SW X d me E R pc L st σ := by
  subst hq; subst hv
  intro p e s m args below meth c H locs ls C hl
  have hg := hl.get hL (fun h => by cases h)
  obtain ⟨ls', e', h'⟩ := hl.store (v := .int (x + Int32.ofInt n)) hn rfl
  intro T hT X
  obtain ⟨t, a, b⟩ := kk p e s m args below meth c H locs ls' C h' T hT X
  refine ⟨t, ?_, b⟩
  have hexec := C.1
  have hb := C.2.1
  jvm_step X.here [X.here.top, ↓top_set X.here.top, hexec, hb, hd, hg, e']
  exact a
theorem SW.iadd (hd : decode me.2.1 pc = .ok (.iadd, 1)) (hq : pc + 1 = q) (kk : SW X d me E R q L (.int (x + y) :: rest) σ) : SW X d me E R pc L (.int y :: .int x :: rest) σ := by
  subst hq
  intro p e s m args below meth c H locs ls C hl
  exact lv_iadd C.1 C.2.1 hd (kk p e s m args below meth c H locs ls C hl)
theorem SW.isub (hd : decode me.2.1 pc = .ok (.isub, 1)) (hq : pc + 1 = q) (kk : SW X d me E R q L (.int (x - y) :: rest) σ) : SW X d me E R pc L (.int y :: .int x :: rest) σ := by
  subst hq
  intro p e s m args below meth c H locs ls C hl
  exact lv_isub C.1 C.2.1 hd (kk p e s m args below meth c H locs ls C hl)
theorem SW.imul (hd : decode me.2.1 pc = .ok (.imul, 1)) (hq : pc + 1 = q) (kk : SW X d me E R q L (.int (x * y) :: rest) σ) : SW X d me E R pc L (.int y :: .int x :: rest) σ := by
  subst hq
  intro p e s m args below meth c H locs ls C hl
  exact lv_imul C.1 C.2.1 hd (kk p e s m args below meth c H locs ls C hl)
theorem SW.iand (hd : decode me.2.1 pc = .ok (.iand, 1)) (hq : pc + 1 = q) (kk : SW X d me E R q L (.int (x &&& y) :: rest) σ) : SW X d me E R pc L (.int y :: .int x :: rest) σ := by
  subst hq
  intro p e s m args below meth c H locs ls C hl
  exact lv_iand C.1 C.2.1 hd (kk p e s m args below meth c H locs ls C hl)
theorem SW.ior (hd : decode me.2.1 pc = .ok (.ior, 1)) (hq : pc + 1 = q) (kk : SW X d me E R q L (.int (x ||| y) :: rest) σ) : SW X d me E R pc L (.int y :: .int x :: rest) σ := by
  subst hq
  intro p e s m args below meth c H locs ls C hl
  exact lv_ior C.1 C.2.1 hd (kk p e s m args below meth c H locs ls C hl)
theorem SW.ixor (hd : decode me.2.1 pc = .ok (.ixor, 1)) (hq : pc + 1 = q) (kk : SW X d me E R q L (.int (x ^^^ y) :: rest) σ) : SW X d me E R pc L (.int y :: .int x :: rest) σ := by
  subst hq
  intro p e s m args below meth c H locs ls C hl
  exact lv_ixor C.1 C.2.1 hd (kk p e s m args below meth c H locs ls C hl)
theorem SW.ishl (hd : decode me.2.1 pc = .ok (.ishl, 1)) (hq : pc + 1 = q) (kk : SW X d me E R q L (.int (x <<< (y &&& 31)) :: rest) σ) : SW X d me E R pc L (.int y :: .int x :: rest) σ := by
  subst hq
  intro p e s m args below meth c H locs ls C hl
  exact lv_ishl C.1 C.2.1 hd (kk p e s m args below meth c H locs ls C hl)
theorem SW.ishr (hd : decode me.2.1 pc = .ok (.ishr, 1)) (hq : pc + 1 = q) (kk : SW X d me E R q L (.int (x >>> (y &&& 31)) :: rest) σ) : SW X d me E R pc L (.int y :: .int x :: rest) σ := by
  subst hq
  intro p e s m args below meth c H locs ls C hl
  exact lv_ishr C.1 C.2.1 hd (kk p e s m args below meth c H locs ls C hl)
theorem SW.idiv (hd : decode me.2.1 pc = .ok (.idiv, 1)) (hne : ¬ y = 0) (hq : pc + 1 = q) (kk : SW X d me E R q L (.int (x / y) :: rest) σ) : SW X d me E R pc L (.int y :: .int x :: rest) σ := by
  subst hq
  intro p e s m args below meth c H locs ls C hl
  exact lv_idiv C.1 C.2.1 hd hne (kk p e s m args below meth c H locs ls C hl)
theorem SW.irem (hd : decode me.2.1 pc = .ok (.irem, 1)) (hne : ¬ y = 0) (hq : pc + 1 = q) (kk : SW X d me E R q L (.int (x - x / y * y) :: rest) σ) : SW X d me E R pc L (.int y :: .int x :: rest) σ := by
  subst hq
  intro p e s m args below meth c H locs ls C hl
  exact lv_irem C.1 C.2.1 hd hne (kk p e s m args below meth c H locs ls C hl)
theorem SW.ineg (hd : decode me.2.1 pc = .ok (.ineg, 1)) (hq : pc + 1 = q) (kk : SW X d me E R q L (.int (-x) :: rest) σ) : SW X d me E R pc L (.int x :: rest) σ := by
  subst hq
  intro p e s m args below meth c H locs ls C hl
  exact lv_ineg C.1 C.2.1 hd (kk p e s m args below meth c H locs ls C hl)
theorem SW.iushr {v : Int32} (hd : decode me.2.1 pc = .ok (.iushr, 1)) (hv : (x.toUInt32 >>> (y.toUInt32 &&& Int32.toUInt32 31)).toInt32 = v) (hq : pc + 1 = q) (kk : SW X d me E R q L (.int v :: rest) σ) : SW X d me E R pc L (.int y :: .int x :: rest) σ := by
  subst hq
  intro p e s m args below meth c H locs ls C hl
  exact lv_iushr C.1 C.2.1 hd hv (kk p e s m args below meth c H locs ls C hl)
theorem SW.dup {va : Value} (hd : decode me.2.1 pc = .ok (.dup, 1)) (hva : va.category = 1) (hq : pc + 1 = q) (kk : SW X d me E R q L (va :: va :: rest) σ) : SW X d me E R pc L (va :: rest) σ := by
  subst hq
  intro p e s m args below meth c H locs ls C hl
  exact lv_dup C.1 C.2.1 hd hva (kk p e s m args below meth c H locs ls C hl)
theorem SW.pop {va : Value} (hd : decode me.2.1 pc = .ok (.pop, 1)) (hva : va.category = 1) (hq : pc + 1 = q) (kk : SW X d me E R q L rest σ) : SW X d me E R pc L (va :: rest) σ := by
  subst hq
  intro p e s m args below meth c H locs ls C hl
  exact lv_pop C.1 C.2.1 hd hva (kk p e s m args below meth c H locs ls C hl)
theorem SW.dup2 {va vb : Value} (hd : decode me.2.1 pc = .ok (.dup2, 1)) (hva : va.category = 1) (hvb : vb.category = 1) (hq : pc + 1 = q) (kk : SW X d me E R q L (va :: vb :: va :: vb :: rest) σ) : SW X d me E R pc L (va :: vb :: rest) σ := by
  subst hq
  intro p e s m args below meth c H locs ls C hl
  exact lv_dup2_11 C.1 C.2.1 hd hva hvb (kk p e s m args below meth c H locs ls C hl)
theorem SW.goto {off : Int} (hd : decode me.2.1 pc = .ok (.goto off, 3)) (hq : (pc : Int) + off = (q : Int)) (kk : SW X d me E R q L st σ) : SW X d me E R pc L st σ := by
  intro p e s m args below meth c H locs ls C hl
  exact lv_goto C.1 C.2.1 hd hq (kk p e s m args below meth c H locs ls C hl)
theorem SW.tableIn {dflt lo hi : Int} {offs : Array Int} {len : Nat} {off : Int} (hd : decode me.2.1 pc = .ok (.tableswitch dflt lo hi offs, len)) (h1 : ¬ x.toInt < lo) (h2 : ¬ hi < x.toInt) (ho : offs[(x.toInt - lo).toNat]? = some off) (hq : (pc : Int) + off = (q : Int)) (kk : SW X d me E R q L rest σ) : SW X d me E R pc L (.int x :: rest) σ := by
  intro p e s m args below meth c H locs ls C hl
  exact lv_tableIn C.1 C.2.1 hd h1 h2 ho hq (kk p e s m args below meth c H locs ls C hl)
theorem SW.tableOut {dflt lo hi : Int} {offs : Array Int} {len : Nat} (hd : decode me.2.1 pc = .ok (.tableswitch dflt lo hi offs, len)) (h : x.toInt < lo ∨ hi < x.toInt) (hq : (pc : Int) + dflt = (q : Int)) (kk : SW X d me E R q L rest σ) : SW X d me E R pc L (.int x :: rest) σ := by
  intro p e s m args below meth c H locs ls C hl
  exact lv_tableOut C.1 C.2.1 hd h hq (kk p e s m args below meth c H locs ls C hl)
theorem SW.icmp_eq {off : Int} {tgt : Nat} (hd : decode me.2.1 pc = .ok (.if_icmp .eq off, 3)) (ht : (pc : Int) + off = (tgt : Int)) (hq : pc + 3 = q) (kt : x = y → SW X d me E R tgt L rest σ) (kf : ¬ x = y → SW X d me E R q L rest σ) : SW X d me E R pc L (.int y :: .int x :: rest) σ := by
  subst hq
  intro p e s m args below meth c H locs ls C hl
  exact lv_icmp_eq C.1 C.2.1 hd ht (fun h => kt h p e s m args below meth c H locs ls C hl) (fun h => kf h p e s m args below meth c H locs ls C hl)
theorem SW.if_eq {off : Int} {tgt : Nat} (hd : decode me.2.1 pc = .ok (.ifCond .eq off, 3)) (ht : (pc : Int) + off = (tgt : Int)) (hq : pc + 3 = q) (kt : x = 0 → SW X d me E R tgt L rest σ) (kf : ¬ x = 0 → SW X d me E R q L rest σ) : SW X d me E R pc L (.int x :: rest) σ := by
  subst hq
  intro p e s m args below meth c H locs ls C hl
  exact lv_if_eq C.1 C.2.1 hd ht (fun h => kt h p e s m args below meth c H locs ls C hl) (fun h => kf h p e s m args below meth c H locs ls C hl)
theorem SW.icmp_ne {off : Int} {tgt : Nat} (hd : decode me.2.1 pc = .ok (.if_icmp .ne off, 3)) (ht : (pc : Int) + off = (tgt : Int)) (hq : pc + 3 = q) (kt : ¬ x = y → SW X d me E R tgt L rest σ) (kf : x = y → SW X d me E R q L rest σ) : SW X d me E R pc L (.int y :: .int x :: rest) σ := by
  subst hq
  intro p e s m args below meth c H locs ls C hl
  exact lv_icmp_ne C.1 C.2.1 hd ht (fun h => kt h p e s m args below meth c H locs ls C hl) (fun h => kf h p e s m args below meth c H locs ls C hl)
theorem SW.if_ne {off : Int} {tgt : Nat} (hd : decode me.2.1 pc = .ok (.ifCond .ne off, 3)) (ht : (pc : Int) + off = (tgt : Int)) (hq : pc + 3 = q) (kt : ¬ x = 0 → SW X d me E R tgt L rest σ) (kf : x = 0 → SW X d me E R q L rest σ) : SW X d me E R pc L (.int x :: rest) σ := by
  subst hq
  intro p e s m args below meth c H locs ls C hl
  exact lv_if_ne C.1 C.2.1 hd ht (fun h => kt h p e s m args below meth c H locs ls C hl) (fun h => kf h p e s m args below meth c H locs ls C hl)
theorem SW.icmp_lt {off : Int} {tgt : Nat} (hd : decode me.2.1 pc = .ok (.if_icmp .lt off, 3)) (ht : (pc : Int) + off = (tgt : Int)) (hq : pc + 3 = q) (kt : x < y → SW X d me E R tgt L rest σ) (kf : ¬ x < y → SW X d me E R q L rest σ) : SW X d me E R pc L (.int y :: .int x :: rest) σ := by
  subst hq
  intro p e s m args below meth c H locs ls C hl
  exact lv_icmp_lt C.1 C.2.1 hd ht (fun h => kt h p e s m args below meth c H locs ls C hl) (fun h => kf h p e s m args below meth c H locs ls C hl)
theorem SW.if_lt {off : Int} {tgt : Nat} (hd : decode me.2.1 pc = .ok (.ifCond .lt off, 3)) (ht : (pc : Int) + off = (tgt : Int)) (hq : pc + 3 = q) (kt : x < 0 → SW X d me E R tgt L rest σ) (kf : ¬ x < 0 → SW X d me E R q L rest σ) : SW X d me E R pc L (.int x :: rest) σ := by
  subst hq
  intro p e s m args below meth c H locs ls C hl
  exact lv_if_lt C.1 C.2.1 hd ht (fun h => kt h p e s m args below meth c H locs ls C hl) (fun h => kf h p e s m args below meth c H locs ls C hl)
theorem SW.icmp_ge {off : Int} {tgt : Nat} (hd : decode me.2.1 pc = .ok (.if_icmp .ge off, 3)) (ht : (pc : Int) + off = (tgt : Int)) (hq : pc + 3 = q) (kt : y ≤ x → SW X d me E R tgt L rest σ) (kf : ¬ y ≤ x → SW X d me E R q L rest σ) : SW X d me E R pc L (.int y :: .int x :: rest) σ := by
  subst hq
  intro p e s m args below meth c H locs ls C hl
  exact lv_icmp_ge C.1 C.2.1 hd ht (fun h => kt h p e s m args below meth c H locs ls C hl) (fun h => kf h p e s m args below meth c H locs ls C hl)
theorem SW.if_ge {off : Int} {tgt : Nat} (hd : decode me.2.1 pc = .ok (.ifCond .ge off, 3)) (ht : (pc : Int) + off = (tgt : Int)) (hq : pc + 3 = q) (kt : 0 ≤ x → SW X d me E R tgt L rest σ) (kf : ¬ 0 ≤ x → SW X d me E R q L rest σ) : SW X d me E R pc L (.int x :: rest) σ := by
  subst hq
  intro p e s m args below meth c H locs ls C hl
  exact lv_if_ge C.1 C.2.1 hd ht (fun h => kt h p e s m args below meth c H locs ls C hl) (fun h => kf h p e s m args below meth c H locs ls C hl)
theorem SW.icmp_gt {off : Int} {tgt : Nat} (hd : decode me.2.1 pc = .ok (.if_icmp .gt off, 3)) (ht : (pc : Int) + off = (tgt : Int)) (hq : pc + 3 = q) (kt : y < x → SW X d me E R tgt L rest σ) (kf : ¬ y < x → SW X d me E R q L rest σ) : SW X d me E R pc L (.int y :: .int x :: rest) σ := by
  subst hq
  intro p e s m args below meth c H locs ls C hl
  exact lv_icmp_gt C.1 C.2.1 hd ht (fun h => kt h p e s m args below meth c H locs ls C hl) (fun h => kf h p e s m args below meth c H locs ls C hl)
theorem SW.if_gt {off : Int} {tgt : Nat} (hd : decode me.2.1 pc = .ok (.ifCond .gt off, 3)) (ht : (pc : Int) + off = (tgt : Int)) (hq : pc + 3 = q) (kt : 0 < x → SW X d me E R tgt L rest σ) (kf : ¬ 0 < x → SW X d me E R q L rest σ) : SW X d me E R pc L (.int x :: rest) σ := by
  subst hq
  intro p e s m args below meth c H locs ls C hl
  exact lv_if_gt C.1 C.2.1 hd ht (fun h => kt h p e s m args below meth c H locs ls C hl) (fun h => kf h p e s m args below meth c H locs ls C hl)
theorem SW.icmp_le {off : Int} {tgt : Nat} (hd : decode me.2.1 pc = .ok (.if_icmp .le off, 3)) (ht : (pc : Int) + off = (tgt : Int)) (hq : pc + 3 = q) (kt : x ≤ y → SW X d me E R tgt L rest σ) (kf : ¬ x ≤ y → SW X d me E R q L rest σ) : SW X d me E R pc L (.int y :: .int x :: rest) σ := by
  subst hq
  intro p e s m args below meth c H locs ls C hl
  exact lv_icmp_le C.1 C.2.1 hd ht (fun h => kt h p e s m args below meth c H locs ls C hl) (fun h => kf h p e s m args below meth c H locs ls C hl)
theorem SW.if_le {off : Int} {tgt : Nat} (hd : decode me.2.1 pc = .ok (.ifCond .le off, 3)) (ht : (pc : Int) + off = (tgt : Int)) (hq : pc + 3 = q) (kt : x ≤ 0 → SW X d me E R tgt L rest σ) (kf : ¬ x ≤ 0 → SW X d me E R q L rest σ) : SW X d me E R pc L (.int x :: rest) σ := by
  subst hq
  intro p e s m args below meth c H locs ls C hl
  exact lv_if_le C.1 C.2.1 hd ht (fun h => kt h p e s m args below meth c H locs ls C hl) (fun h => kf h p e s m args below meth c H locs ls C hl)

/-! fields and arrays -/
/-- the field k of the objects of kind ci, as own's constant pool names it at idx -/
def sw_FL (own : String) (idx ci k : Nat) : Prop := ∃ (C : String) (T : u_T) (N : Nat), vwCl[ci]? = some (C, T, N) ∧ k < N ∧ (Cond.fieldLink own idx (T k).1 (T k).2.1 (T k).2.2.1 ∈ sw_W ∨ ∃ host : String, Cond.fieldLinkNest own idx (T k).1 (T k).2.1 (T k).2.2.1 host ∈ lw_tbl)
/-- it may be written; its type -/
def sw_FP (own : String) (idx ci k : Nat) (ty : FieldType) : Prop := ∃ (C : String) (T : u_T) (N : Nat), vwCl[ci]? = some (C, T, N) ∧ k < N ∧ (Cond.fieldLink own idx (T k).1 (T k).2.1 (T k).2.2.1 ∈ sw_W ∨ ∃ host : String, Cond.fieldLinkNest own idx (T k).1 (T k).2.1 (T k).2.2.1 host ∈ lw_tbl) ∧ (T k).2.2.2 = false ∧ parseFieldDescriptor (T k).2.2.1 = some ty
/-- what is known of each class -/
def sw_clOk (q : vw_C) : Prop := (∀ w ∈ u_ws q.1 q.2.1 q.2.2, w ∈ sw_W) ∧ (∃ ty0 : Nat → FieldType, ∀ k, k < q.2.2 → parseFieldDescriptor (q.2.1 k).2.2.1 = some (ty0 k)) ∧ ∀ a, a < q.2.2 → ∀ b, b < q.2.2 → a ≠ b → (q.2.1 a).2.1 ≠ (q.2.1 b).2.1
theorem sw_cl0 : sw_clOk (RX0, TX0, 3) := ⟨by decide +kernel, ⟨_, tyX0_ok⟩, nmX0⟩
theorem sw_cl1 : sw_clOk (RX1, TX1, 8) := ⟨by decide +kernel, ⟨_, tyX1_ok⟩, nmX1⟩
theorem sw_cl2 : sw_clOk (RX2, TX2, 4) := ⟨by decide +kernel, ⟨_, tyX2_ok⟩, nmX2⟩
theorem sw_cl3 : sw_clOk (RX3, TX3, 1) := ⟨by decide +kernel, ⟨_, tyX3_ok⟩, nmX3⟩
theorem sw_cl4 : sw_clOk (RX4, TX4, 3) := ⟨by decide +kernel, ⟨_, tyX4_ok⟩, nmX4⟩
theorem sw_cl5 : sw_clOk (RX5, TX5, 13) := ⟨by decide +kernel, ⟨_, tyX5_ok⟩, nmX5⟩
theorem sw_cl6 : sw_clOk (RX6, TX6, 9) := ⟨by decide +kernel, ⟨_, tyX6_ok⟩, nmX6⟩
theorem sw_cl7 : sw_clOk (RX7, TX7, 9) := ⟨by decide +kernel, ⟨_, tyX7_ok⟩, nmX7⟩
theorem sw_cl8 : sw_clOk (RX8, TX8, 30) := ⟨by decide +kernel, ⟨_, tyX8_ok⟩, nmX8⟩
theorem sw_cls : ∀ (ci : Nat) (q : vw_C), vwCl[ci]? = some q → sw_clOk q := by
  intro ci q h
  match ci, h with
  | 0, h => cases h; exact sw_cl0
  | 1, h => cases h; exact sw_cl1
  | 2, h => cases h; exact sw_cl2
  | 3, h => cases h; exact sw_cl3
  | 4, h => cases h; exact sw_cl4
  | 5, h => cases h; exact sw_cl5
  | 6, h => cases h; exact sw_cl6
  | 7, h => cases h; exact sw_cl7
  | 8, h => cases h; exact sw_cl8
  | k + 9, h => simp [vwCl] at h
theorem SW.getV {idx ci k i : Nat} {fk : List (Option Nat)} {v : Value} (hF : sw_FL me.1.cls idx ci k) (hsh : sw_sh i = .inr (ci, fk)) (hv : (sw_fs (sw_ad X) (σ i) fk)[k]? = some v) (hd : decode me.2.1 pc = .ok (.getfield idx, 3)) (hq : pc + 3 = q) (kk : SW X d me E R q L (v :: rest) σ) : SW X d me E R pc L (.ref (sw_ad X i) :: rest) σ := by
  subst hq
  intro p e s m args below meth c H locs ls C hl
  have kk := kk p e s m args below meth c H locs ls C hl
  obtain ⟨hx, hb, hr, hml, hown, hts, hlk, hK, hdis, hE, hP, hS⟩ := C
  obtain ⟨C, T, N, hc, hk, hw⟩ := hF
  have hi := sw_sh_lt hsh
  have he := sw_ws_get (X := X) (σ := σ) hi
  rw [sw_cellO hsh] at he
  rcases hw with hw | ⟨host, hw⟩
  · exact va_get (Ts := sw_W) hx hb hts (sw_cls ci _ hc).1 hown hK.1 hP i he hc k hk (hts _ hw) (fun _ h => h) hv hd kk
  · exact va_getN (Ts := sw_W) hx hb hts (sw_cls ci _ hc).1 hown hK.1 hP i he hc k hk (va_Nw.use rfl (hK.2 _ hw rfl)) (fun _ h => h) hv hd kk
theorem SW.getI {idx ci k i : Nat} {fk : List (Option Nat)} (hF : sw_FL me.1.cls idx ci k) (hsh : sw_sh i = .inr (ci, fk)) (hk : fk[k]? = some none) (hd : decode me.2.1 pc = .ok (.getfield idx, 3)) (hq : pc + 3 = q) (kk : SW X d me E R q L (.int (σ i k) :: rest) σ) : SW X d me E R pc L (.ref (sw_ad X i) :: rest) σ :=
  SW.getV hF hsh (sw_fs_int hk) hd hq kk
theorem SW.getR {idx ci k i j : Nat} {fk : List (Option Nat)} (hF : sw_FL me.1.cls idx ci k) (hsh : sw_sh i = .inr (ci, fk)) (hk : fk[k]? = some (some j)) (hd : decode me.2.1 pc = .ok (.getfield idx, 3)) (hq : pc + 3 = q) (kk : SW X d me E R q L (.ref (sw_ad X j) :: rest) σ) : SW X d me E R pc L (.ref (sw_ad X i) :: rest) σ :=
  SW.getV hF hsh (sw_fs_ref hk) hd hq kk
theorem SW.put {idx ci k i : Nat} {fk : List (Option Nat)} {ty : FieldType} (hF : sw_FP me.1.cls idx ci k ty) (hsh : sw_sh i = .inr (ci, fk)) (hk : fk[k]? = some none) (hn : narrow ty (.int x) = .int x) (hfit : fits ty (.int x) = true) (hd : decode me.2.1 pc = .ok (.putfield idx, 3)) (hq : pc + 3 = q) (kk : SW X d me E R q L rest (sw_up σ i k x)) : SW X d me E R pc L (.int x :: .ref (sw_ad X i) :: rest) σ := by
  subst hq
  intro p e s m args below meth c H locs ls C hl
  obtain ⟨hx, hb, hr, hml, hown, hts, hlk, hK, hdis, hE, hP, hS⟩ := C
  obtain ⟨C, T, N, hc, hkN, hw, hfin, hpd⟩ := hF
  have hi := sw_sh_lt hsh
  have he := sw_ws_get (X := X) (σ := σ) hi
  rw [sw_cellO hsh] at he
  have hcl := sw_cls ci _ hc
  obtain ⟨ty0, hty⟩ := hcl.2.1
  have hkl : k < (sw_fs (sw_ad X) (σ i) fk).length := by
    have := (List.getElem?_eq_some_iff.mp hk).1
    simpa [sw_fs] using this
  have hset : (sw_ws X σ).set i (sw_ad X i, .inr (ci, (sw_fs (sw_ad X) (σ i) fk).set k (.int x))) = sw_ws X (sw_up σ i k x) := by
    rw [sw_fs_set hk, ← sw_ws_set hi (σ' := sw_up σ i k x) sw_up_o, sw_cellO hsh, sw_up_i]
  rcases hw with hw | ⟨host, hw⟩
  · refine va_put (Ts := sw_W) (A := sw_A X s.heap.size) hx hb hts hcl.1 ty0 hty hcl.2.2 hown hK.1 hP (sw_D hdis) hS i he hc k hkN (hts _ hw) (fun _ h => h) hfin hpd hn hfit hkl hd (fun H1 locs1 hP1 hD1 hS1 => ?_)
    rw [hset] at hP1
    exact kk p e s m args below meth c H1 locs1 ls ⟨hx, hb, hr, hml, hown, hts, hlk, hK, hdis, hE, hP1, hS1⟩ hl
  · refine va_putN (Ts := sw_W) (A := sw_A X s.heap.size) hx hb hts hcl.1 ty0 hty hcl.2.2 hown hK.1 hP (sw_D hdis) hS i he hc k hkN (va_Nw.use rfl (hK.2 _ hw rfl)) (fun _ h => h) hfin hpd hn hfit hkl hd (fun H1 locs1 hP1 hD1 hS1 => ?_)
    rw [hset] at hP1
    exact kk p e s m args below meth c H1 locs1 ls ⟨hx, hb, hr, hml, hown, hts, hlk, hK, hdis, hE, hP1, hS1⟩ hl
theorem SW.putI {idx ci k i : Nat} {fk : List (Option Nat)} (hF : sw_FP me.1.cls idx ci k .int) (hsh : sw_sh i = .inr (ci, fk)) (hk : fk[k]? = some none) (hd : decode me.2.1 pc = .ok (.putfield idx, 3)) (hq : pc + 3 = q) (kk : SW X d me E R q L rest (sw_up σ i k x)) : SW X d me E R pc L (.int x :: .ref (sw_ad X i) :: rest) σ :=
  SW.put hF hsh hk rfl rfl hd hq kk
theorem vp_in_lt {x : Int32} {n : Nat} (h : vp_in x n) : 0 < n := by
  rcases Nat.eq_zero_or_pos n with h0 | h0
  · subst h0
    exact absurd (Or.inr (Nat.zero_le _)) h
  · exact h0
theorem SW.iald {i n : Nat} (hsh : sw_sh i = .inl (false, n)) (hin : vp_in x n) (hd : decode me.2.1 pc = .ok (.iaload, 1)) (hq : pc + 1 = q) (kk : SW X d me E R q L (.int (σ i x.toNatClampNeg) :: rest) σ) : SW X d me E R pc L (.int x :: .ref (sw_ad X i) :: rest) σ := by
  subst hq
  intro p e s m args below meth c H locs ls C hl
  have kk := kk p e s m args below meth c H locs ls C hl
  obtain ⟨hx, hb, hr, hml, hown, hts, hlk, hK, hdis, hE, hP, hS⟩ := C
  have he := sw_ws_get (X := X) (σ := σ) (sw_sh_ltA hsh (vp_in_lt hin))
  rw [sw_cellA hsh] at he
  exact va_iald hx hb hK.1 hP i 0 he rfl hin hd kk
theorem SW.zald {i n : Nat} (hsh : sw_sh i = .inl (true, n)) (hin : vp_in x n) (hd : decode me.2.1 pc = .ok (.baload, 1)) (hq : pc + 1 = q) (kk : SW X d me E R q L (.int (σ i x.toNatClampNeg) :: rest) σ) : SW X d me E R pc L (.int x :: .ref (sw_ad X i) :: rest) σ := by
  subst hq
  intro p e s m args below meth c H locs ls C hl
  have kk := kk p e s m args below meth c H locs ls C hl
  obtain ⟨hx, hb, hr, hml, hown, hts, hlk, hK, hdis, hE, hP, hS⟩ := C
  have he := sw_ws_get (X := X) (σ := σ) (sw_sh_ltA hsh (vp_in_lt hin))
  rw [sw_cellA hsh] at he
  exact va_zald hx hb hK.1 hP i 1 he rfl hin hd kk
theorem SW.iast {i n : Nat} (hsh : sw_sh i = .inl (false, n)) (hin : vp_in x n) (hd : decode me.2.1 pc = .ok (.iastore, 1)) (hq : pc + 1 = q) (kk : SW X d me E R q L rest (sw_up σ i x.toNatClampNeg y)) : SW X d me E R pc L (.int y :: .int x :: .ref (sw_ad X i) :: rest) σ := by
  subst hq
  intro p e s m args below meth c H locs ls C hl
  obtain ⟨hx, hb, hr, hml, hown, hts, hlk, hK, hdis, hE, hP, hS⟩ := C
  have hi := sw_sh_ltA hsh (vp_in_lt hin)
  have he := sw_ws_get (X := X) (σ := σ) hi
  rw [sw_cellA hsh] at he
  refine va_iast (A := sw_A X s.heap.size) hx hb hK.1 hP (sw_D hdis) hS i 0 he rfl hin hd (fun H1 locs1 hP1 hD1 hS1 => ?_)
  have hset : (sw_ws X σ).set i (sw_ad X i, .inl (X.2.2.2.1, n, .inl (upd (σ i) x.toNatClampNeg y))) = sw_ws X (sw_up σ i x.toNatClampNeg y) := by
    rw [← sw_ws_set hi (σ' := sw_up σ i x.toNatClampNeg y) sw_up_o, sw_cellA hsh, sw_up_i]
    rfl
  rw [show (if false = true then X.2.2.2.2 else X.2.2.2.1) = X.2.2.2.1 from rfl, hset] at hP1
  exact kk p e s m args below meth c H1 locs1 ls ⟨hx, hb, hr, hml, hown, hts, hlk, hK, hdis, hE, hP1, hS1⟩ hl
theorem SW.zast {i n : Nat} (hsh : sw_sh i = .inl (true, n)) (hin : vp_in x n) (hy : vp_nar .boolean y = y) (hd : decode me.2.1 pc = .ok (.bastore, 1)) (hq : pc + 1 = q) (kk : SW X d me E R q L rest (sw_up σ i x.toNatClampNeg y)) : SW X d me E R pc L (.int y :: .int x :: .ref (sw_ad X i) :: rest) σ := by
  subst hq
  intro p e s m args below meth c H locs ls C hl
  obtain ⟨hx, hb, hr, hml, hown, hts, hlk, hK, hdis, hE, hP, hS⟩ := C
  have hi := sw_sh_ltA hsh (vp_in_lt hin)
  have he := sw_ws_get (X := X) (σ := σ) hi
  rw [sw_cellA hsh] at he
  refine va_zast (A := sw_A X s.heap.size) hx hb hK.1 hP (sw_D hdis) hS i 1 he rfl hin hd (fun H1 locs1 hP1 hD1 hS1 => ?_)
  have hset : (sw_ws X σ).set i (sw_ad X i, .inl (X.2.2.2.2, n, .inl (upd (σ i) x.toNatClampNeg y))) = sw_ws X (sw_up σ i x.toNatClampNeg y) := by
    rw [← sw_ws_set hi (σ' := sw_up σ i x.toNatClampNeg y) sw_up_o, sw_cellA hsh, sw_up_i]
    rfl
  rw [hy, show (if true = true then X.2.2.2.2 else X.2.2.2.1) = X.2.2.2.2 from rfl, hset] at hP1
  exact kk p e s m args below meth c H1 locs1 ls ⟨hx, hb, hr, hml, hown, hts, hlk, hK, hdis, hE, hP1, hS1⟩ hl
theorem SW.alen {i n : Nat} {b : Bool} {v : Int32} (hsh : sw_sh i = .inl (b, n)) (h0 : 0 < n) (hv : Int32.ofNat n = v) (hd : decode me.2.1 pc = .ok (.arraylength, 1)) (hq : pc + 1 = q) (kk : SW X d me E R q L (.int v :: rest) σ) : SW X d me E R pc L (.ref (sw_ad X i) :: rest) σ := by
  subst hq
  intro p e s m args below meth c H locs ls C hl
  have kk := kk p e s m args below meth c H locs ls C hl
  obtain ⟨hx, hb, hr, hml, hown, hts, hlk, hK, hdis, hE, hP, hS⟩ := C
  have he := sw_ws_get (X := X) (σ := σ) (sw_sh_ltA hsh h0)
  rw [sw_cellA hsh] at he
  cases b
  · exact va_alen hx hb hK.1 hP i 0 (ty := .int) he rfl hv hd kk
  · exact va_alen hx hb hK.1 hP i 1 (ty := .boolean) he rfl hv hd kk
end SWR
section SWR2
variable {X : sw_X} {d : Nat} {me : sw_Me} {E : State → Prop} {R : Option Value → sw_Sg → Prop} {pc q : Nat} {L st rest : List Value} {σ : sw_Sg} {x y : Int32}
/-! answers -/
theorem SW.iret {ty : FieldType} (hr : me.2.2.2 = some ty) (hn : narrow ty (.int x) = .int x) (hd : decode me.2.1 pc = .ok (.ireturn, 1)) (hR : R (some (.int x)) σ) : SW X d me E R pc L [.int x] σ := by
  intro p e s m args below meth c H locs ls C hl
  obtain ⟨hx, hb, hr', hml, hown, hts, hlk, hK, hdis, hE, hP, hS⟩ := C
  exact W.zret hx hb (hr'.trans hr) hn (fun t ht hW => ⟨⟨_, _, rfl, hR, by rw [ht]; exact hP⟩, hS.F ht⟩) hS.2.2 hd hlk
theorem SW.vret (hr : me.2.2.2 = none) (hd : decode me.2.1 pc = .ok (.return_, 1)) (hR : R none σ) : SW X d me E R pc L [] σ := by
  intro p e s m args below meth c H locs ls C hl
  obtain ⟨hx, hb, hr', hml, hown, hts, hlk, hK, hdis, hE, hP, hS⟩ := C
  exact W.vret hx hb (hr'.trans hr) (fun t ht hW => ⟨⟨_, _, rfl, hR, by rw [ht]; exact hP⟩, hS.F ht⟩) hS.2.2 hd hlk
end SWR2
/-! calls -/
/-- what the tables say of a call of a method of an object, and of a static one -/
def sw_CB (own : String) (idx n : Nat) (me : sw_Me) : Prop := me.2.2.1 ≤ 19 ∧ Cond.code me.1 me.2.1 me.2.2.1 me.2.2.2 ∈ sw_W ∧ Cond.initialized me.1.cls ∈ sw_W ∧ (me.1.cls ≠ "java/lang/invoke/MethodHandle" ∧ me.1.cls ≠ "java/lang/invoke/VarHandle") ∧ (parseMethodDescriptor me.1.desc).map (fun d => d.parameters.length) = some n
def sw_CV (own : String) (idx n : Nat) (me : sw_Me) : Prop := sw_CB own idx n me ∧ Cond.methodLink own idx me.1 ∈ sw_W ∧ Cond.instanceMethod me.1 ∈ sw_W ∧ Cond.selects me.1.cls me.1 me.1 ∈ sw_W
def sw_CS (own : String) (idx n : Nat) (me : sw_Me) : Prop := sw_CB own idx n me ∧ Cond.methodLink own idx me.1 ∈ sw_W ∧ Cond.static me.1 ∈ sw_W
def sw_CSN (own : String) (idx n : Nat) (me : sw_Me) : Prop := sw_CB own idx n me ∧ (∃ host : String, Cond.methodLinkNest own idx me.1 host ∈ lw_tbl) ∧ Cond.static me.1 ∈ sw_W
theorem sw_wm_ok {me : sw_Me} {args : Array Value} {s : State} (hts : ∀ w ∈ sw_W, w.before args s = true) (hc : Cond.code me.1 me.2.1 me.2.2.1 me.2.2.2 ∈ sw_W) : ∀ w ∈ sw_wm me, ∀ (a' : Array Value) (U : State), s.WarmedH U.vm → w.before a' U = true := by
  intro w hw a' U hW
  rcases List.mem_cons.mp hw with rfl | hw
  · exact word_at hW (sw_good hc) (hts _ hc)
  · exact word_at hW (sw_good hw) (hts _ hw)
theorem sw_Pc_blind {X : sw_X} {E : State → Prop} (hE : ∀ (U : State) (g : JFrame) (mk : MethodId) (a : Array Value), E U → E (U.calling g mk a)) {args : List Value} {σ : sw_Sg} {sz : Nat} : FrameBlind (sw_Pc X E args σ sz) := by
  intro a U g mk hq
  obtain ⟨h1, h2, h3, ⟨h4, h6⟩, h5, hE1⟩ := hq
  exact ⟨h1, h2, h3, ⟨va_K.moved (u := U) (U := U.calling g mk a) (Vm.Alike.refl U.vm) h4, fun w hw hn => va_Nw.same (u := U) (by cases w <;> first | rfl | exact absurd hn (by simp [sw_isNest])) rfl (h6 w hw hn)⟩, h5, hE _ _ _ _ hE1⟩
theorem sw_cb {X : sw_X} {own : String} {idx n d d' : Nat} {me : sw_Me} {args : Array Value} {s : State} {E : State → Prop} {As : List Value} {σ : sw_Sg} {R' : Option Value → sw_Sg → Prop} (hlt : d' < d) (hts : ∀ w ∈ sw_W, w.before args s = true) (h : sw_CB own idx n me) (hl : (Cond.methodLink own idx me.1).before args s = true) : CallB (sw_rm d) s args own idx me.1 me.2.1 me.2.2.1 me.2.2.2 (sw_wm me) (sw_rm d') 0 0 n := by
  obtain ⟨h1, h2, h3, h4, h5⟩ := h
  refine ⟨rfl, rfl, hlt, ?_, sw_wm_ok hts h2, List.mem_cons_self, hts _ h2, hts _ h3, h4, fun sig h => ?_, hl⟩
  · show 8 + (me.2.2.1 + 11) + 38 * d' ≤ 38 * d
    omega
  · rw [h] at h5
    exact (Option.some.inj h5).symm
theorem sw_cbN {X : sw_X} {own host : String} {idx n d d' : Nat} {me : sw_Me} {args : Array Value} {s : State} (hlt : d' < d) (hts : ∀ w ∈ sw_W, w.before args s = true) (h : sw_CB own idx n me) (hl : (Cond.methodLinkNest own idx me.1 host).before args s = true) : va_CN (sw_rm d) s args own idx me.1 host me.2.1 me.2.2.1 me.2.2.2 (sw_wm me) (sw_rm d') 0 0 n := by
  obtain ⟨h1, h2, h3, h4, h5⟩ := h
  refine ⟨⟨rfl, rfl, hlt, ?_, sw_wm_ok hts h2, List.mem_cons_self⟩, hts _ h2, hts _ h3, h4, fun sig h => ?_, hl⟩
  · show 8 + (me.2.2.1 + 11) + 38 * d' ≤ 38 * d
    omega
  · rw [h] at h5
    exact (Option.some.inj h5).symm
section SWC
variable {X : sw_X} {d d' : Nat} {me mc : sw_Me} {E : State → Prop} {R R' : Option Value → sw_Sg → Prop} {pc q : Nat} {L st rest As : List Value} {σ : sw_Sg}
theorem sw_ret {d0 : Nat} {p : Program} {e : Env} {s : State} {m : MethodId} {args : Array Value} {below : List Frame} {meth : Method} {c : Code} {H : Heap} {locs : List Loc} {ls : Array Slot} {a : Array Value} (C0 : sw_C X d me E σ p s m args meth c H locs) (hl : sw_has ls me.2.2.1 L)
    (hr : va_Run p X.1 e (sw_rm d) s m args below meth c H locs 0 0 0 0 (F0 m pc ls st) rest (sw_Q X H.size R' a) (sw_A X H.size)) (kk : ∀ r σ', R' r σ' → SW X d me E R (pc + 3) L (r.toList ++ rest) σ') : W p X.1 e (sw_rm d) s m args below meth c H locs 0 0 (MQ below (sw_Q X s.heap.size R) args s 0 0 (sw_A X s.heap.size)) (F0 m pc ls st) := by
  obtain ⟨hx, hb, hr', hml, hown, hts, hlk, hK, hdis, hE, hP, hS⟩ := C0
  intro T hT Xs
  obtain ⟨v, st₀, t, T', L1, h0, X', hL, e1, e2, ⟨⟨r, σ', hv, hR, hP'⟩, hz, hk⟩, hst⟩ := hr T hT Xs
  cases hv
  rw [h0] at hz hk
  have hA : ∀ q, sw_A X H.size q → sw_A X s.heap.size q := by
    intro q hq
    rcases hq with hq | hq
    · exact Or.inl hq
    · exact Or.inr (Nat.le_trans hS.1 hq)
  have hS' : va_S (sw_A X s.heap.size) s.heap T'.heap (locs ++ L1) := by
    refine ⟨Nat.le_trans hS.1 (by rw [e1]; exact hz), fun q h1 h2 => ?_, fun q hq => ?_⟩
    · rw [e1, hk q (Nat.lt_of_lt_of_le h1 hS.1) (fun z => h2 (hA q z))]
      exact hS.2.1 q h1 h2
    · rcases List.mem_append.mp hq with h | h
      · exact hS.2.2 q h
      · exact hA _ (hL q h)
  obtain ⟨t2, a1, b1⟩ := kk v σ' hR p e s m args below meth c T'.heap (locs ++ L1) ls ⟨hx, hb, hr', hml, hown, hts, hlk, hK, hdis, hE, by rw [e1]; exact hP', hS'⟩ hl T' rfl X'
  exact ⟨t2, hst t2 a1, b1⟩
theorem sw_pre {E' : State → Prop} {p : Program} {s : State} {m : MethodId} {args : Array Value} {meth : Method} {c : Code} {H : Heap} {locs : List Loc} (C0 : sw_C X d me E σ p s m args meth c H locs) (hE' : ∀ U : State, U.heap = H → s.WarmedH U.vm → E' U) (av : List Value) : ∀ U : State, U.heap = H → s.WarmedH U.vm → sw_Pc X E' av σ H.size av.toArray U := by
  obtain ⟨hx, hb, hr', hml, hown, hts, hlk, hK, hdis, hE, hP, hS⟩ := C0
  intro U hU hW
  exact ⟨rfl, by rw [hU], by rw [hU]; exact hP, hK.warm hW, hdis, hE' U hU hW⟩
theorem SW.callV {idx n i ci : Nat} {fk : List (Option Nat)} (hM : sw_M X d' mc (.ref (sw_ad X i) :: As) σ R') (hC : sw_CV me.1.cls idx n mc) (hlt : d' < d) (hsh : sw_sh i = .inr (ci, fk)) (hcl : (vwCl[ci]?).map (fun q => q.1) = some mc.1.cls) (hn : As.length = n) (hst : st = As.reverse ++ .ref (sw_ad X i) :: rest) (hrm : (rest.map fun v => v.category).sum ≤ 8) (hd : decode me.2.1 pc = .ok (.invokevirtual idx, 3)) (hq : pc + 3 = q) (kk : ∀ r σ', R' r σ' → SW X d me E R q L (r.toList ++ rest) σ') : SW X d me E R pc L st σ := by
  subst hq
  intro p e s m args below meth c H locs ls C0 hl
  have C1 := C0
  obtain ⟨hx, hb, hr', hml, hown, hts, hlk, hK, hdis, hE, hP, hS⟩ := C1
  obtain ⟨c1, c2, c3, c4⟩ := hC
  have hi := sw_sh_lt hsh
  have he := sw_ws_get (X := X) (σ := σ) hi
  rw [sw_cellO hsh] at he
  obtain ⟨q0, hq0, hq1⟩ := Option.map_eq_some_iff.mp hcl
  have hrec := va_recv hK.1 hP hq0 he
  rw [hq1] at hrec
  refine sw_ret (d0 := d') C0 hl (va_runV (As := As) (rest := rest) (Ts := sw_W) ⟨hx, hb, hml, hown, hts⟩ (hM H.size) ⟨sw_cb (X := X) (E := E) (As := As) (σ := σ) (R' := R') hlt hts c1 (hts _ c2), hts _ c3, hts _ c4⟩ ⟨sw_Pc_blind (fun _ _ _ _ h => h), hrec, sw_pre C0 (fun _ _ _ => trivial) _⟩ rfl hn ?_ hst (lv_room hrm) hd ⟨Nat.le_refl _, Nat.le_refl _⟩) kk
  exact hl.1
theorem SW.callS {idx n : Nat} (hM : sw_M X d' mc As σ R') (hC : sw_CS me.1.cls idx n mc) (hlt : d' < d) (hn : As.length = n) (hst : st = As.reverse ++ rest) (hrm : (rest.map fun v => v.category).sum ≤ 8) (hd : decode me.2.1 pc = .ok (.invokestatic idx, 3)) (hq : pc + 3 = q) (kk : ∀ r σ', R' r σ' → SW X d me E R q L (r.toList ++ rest) σ') : SW X d me E R pc L st σ := by
  subst hq
  intro p e s m args below meth c H locs ls C0 hl
  have C1 := C0
  obtain ⟨hx, hb, hr', hml, hown, hts, hlk, hK, hdis, hE, hP, hS⟩ := C1
  obtain ⟨c1, c2, c3⟩ := hC
  refine sw_ret (d0 := d') C0 hl (va_runS (As := As) (rest := rest) (Ts := sw_W) ⟨hx, hb, hml, hown, hts⟩ (hM H.size) ⟨sw_cb (X := X) (E := E) (As := As) (σ := σ) (R' := R') hlt hts c1 (hts _ c2), hts _ c3⟩ ⟨sw_Pc_blind (fun _ _ _ _ h => h), sw_pre C0 (fun _ _ _ => trivial) _⟩ rfl hn ?_ hst (lv_room hrm) hd ⟨Nat.le_refl _, Nat.le_refl _⟩) kk
  exact hl.1
theorem SW.callSN {idx n : Nat} (hM : sw_M X d' mc As σ R') (hC : sw_CSN me.1.cls idx n mc) (hlt : d' < d) (hn : As.length = n) (hst : st = As.reverse ++ rest) (hrm : (rest.map fun v => v.category).sum ≤ 8) (hd : decode me.2.1 pc = .ok (.invokestatic idx, 3)) (hq : pc + 3 = q) (kk : ∀ r σ', R' r σ' → SW X d me E R q L (r.toList ++ rest) σ') : SW X d me E R pc L st σ := by
  subst hq
  intro p e s m args below meth c H locs ls C0 hl
  have C1 := C0
  obtain ⟨hx, hb, hr', hml, hown, hts, hlk, hK, hdis, hE, hP, hS⟩ := C1
  obtain ⟨c1, ⟨host, c2⟩, c3⟩ := hC
  refine sw_ret (d0 := d') C0 hl (va_runSN (As := As) (rest := rest) (Ts := sw_W) ⟨hx, hb, hml, hown, hts⟩ (hM H.size) ⟨sw_cbN (X := X) hlt hts c1 (va_Nw.use rfl (hK.2 _ c2 rfl)), hts _ c3, trivial⟩ ⟨sw_Pc_blind (fun _ _ _ _ h => h), sw_pre C0 (fun _ _ _ => trivial) _⟩ rfl hn ?_ hst (lv_room hrm) hd ⟨Nat.le_refl _, Nat.le_refl _⟩) kk
  exact hl.1
/-- a method's contract out of a walk from its entry -/
theorem sw_ME.of {args : List Value} {Lu : List Value} (hp : plainName me.1.cls = true) (hL : args ++ List.replicate (me.2.2.1 - args.length) .null = Lu) (hlen : args.length ≤ me.2.2.1) (hcat : args.all (fun v => decide (v.category = 1)) = true) (kk : SW X d me E R 0 Lu [] σ) : sw_ME X d E me args σ R := by
  intro sz
  refine Met.ofW (cc := me.2.1) (maxL := me.2.2.1) (ret := me.2.2.2) hp rfl ?_
  intro p e s m av below meth c s₁ B hml hv
  obtain ⟨rfl, hsz, hP, hK, hdis, hE⟩ := hv
  have hts : ∀ w ∈ sw_W, w.before args.toArray s = true := fun w hw => atoms_spec (ws := sw_wm me) B.pre w (List.mem_cons_of_mem _ hw)
  have hown : s.vm.findClass me.1.cls = some m.cls := findClass_of_methodNamed B.named
  subst hsz
  have hc1 : ∀ v ∈ args, v.category = 1 := fun v hv => by simpa using List.all_eq_true.mp hcat v hv
  have hsl : ∀ l : List Value, (∀ v ∈ l, v.category = 1) → lg_sl l = l.map (fun v => Slot.val v) ∧ ∀ (k i : Nat) (v : Value), l[i]? = some v → (k + i, v) ∈ lv_args k l := by
    intro l
    induction l with
    | nil => exact fun _ => ⟨rfl, fun k i v h => by simp at h⟩
    | cons a l ih =>
      intro h
      obtain ⟨i1, i2⟩ := ih (fun v hv => h v (List.mem_cons_of_mem _ hv))
      have ha : a.category = 1 := h a List.mem_cons_self
      refine ⟨?_, fun k i v hi => ?_⟩
      · rw [List.map_cons, ← i1]
        simp [lg_sl, List.flatMap_cons, ha]
      · simp only [lv_args, ha]
        cases i with
        | zero =>
          simp at hi
          subst hi
          exact List.mem_cons_self
        | succ i =>
          have := i2 (k + 1) i v (by simpa using hi)
          rw [show k + (i + 1) = k + 1 + i by omega]
          exact List.mem_cons_of_mem _ this
  obtain ⟨hs1, hs2⟩ := hsl args hc1
  have hlen' : (lg_sl args).length ≤ me.2.2.1 := by rw [hs1, List.length_map]; exact hlen
  have hl := lv_entry args (n := me.2.2.1) hlen'
  rw [lg_entry_eq]
  generalize (lg_sl args ++ List.replicate (me.2.2.1 - (lg_sl args).length) Slot.unset).toArray = ls at hl ⊢
  refine kk p e s m args.toArray below meth c s.heap [] ls ⟨B.exec, B.bytes, B.returns, hml, hown, hts, B.notSynchronized, hK, hdis, hE, hP, va_S.rf⟩ ⟨hl.1, hl.2.1, fun i v hi hv => ?_⟩
  rw [← hL, List.getElem?_append] at hi
  split at hi
  · refine ⟨?_, hc1 v (List.mem_of_getElem? hi)⟩
    have := hl.2.2 _ (hs2 0 i v hi)
    simpa using this
  · rw [List.getElem?_replicate] at hi
    split at hi
    · cases hi
      exact absurd rfl hv
    · cases hi
end SWC
