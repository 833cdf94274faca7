/-! GROWING WORLDS: what constructors do. The world is a list of cells; new ones come to its end. -/
abbrev gw_D : Type := Launch × va_G × ClassId × ClassId
abbrev gw_tys (Y : gw_D) : List (ClassId × FieldType) := [(Y.2.2.1, .int), (Y.2.2.2, .boolean)]
def gw_K (Y : gw_D) (U : State) : Prop := va_K Y.2.1 vwCl (gw_tys Y) U ∧ sw_N U
theorem gw_K.warm {Y : gw_D} {s U : State} (hW : s.WarmedH U.vm) (h : gw_K Y s) : gw_K Y U := ⟨va_K.moved hW.alike h.1, h.2.warm hW⟩
abbrev gw_rm (d mc ms : Nat) : Room := { frames := d, cells := mc, slots := ms, locals := 38 * d }
def gw_Pc (Y : gw_D) (E : State → Prop) (args : List Value) (ws : va_W) (sz : Nat) : Array Value → State → Prop := va_Pc args fun U => U.heap.size = sz ∧ va_P Y.2.1 vwCl ws U.heap ∧ gw_K Y U ∧ va_D (fun _ => True) ws ∧ E U
def gw_Q (Y : gw_D) (ws : va_W) (sz : Nat) (R : va_W → Prop) : Array Value → State → Outcome → State → Prop := va_Qv R (fun ws' t => va_P Y.2.1 vwCl ws' t.heap ∧ va_D (va_A ws sz) ws') (va_A ws sz)
/-- a method that makes cells: from the world ws to a world with R -/
def gw_M (Y : gw_D) (d mc ms : Nat) (E : State → Prop) (me : sw_Me) (args : List Value) (ws : va_W) (R : va_W → Prop) : Prop := ∀ sz : Nat, Met Y.1 me.1 (sw_wm me) (gw_rm d mc ms) (gw_Pc Y E args ws sz) (gw_Q Y ws sz R) mc ms (va_A ws sz)
/-- a method over the last cells of any world -/
def gw_I (Y : gw_D) (d mc ms : Nat) (me : sw_Me) (args : List Value) (zs : va_W) (Rc : va_W → Prop) : Prop := ∀ B : va_W, gw_M Y d mc ms sw_E0 me args (B ++ zs) (fun ws' => ∃ cs, ws' = B ++ cs ∧ Rc cs)
def gw_C (Y : gw_D) (me : sw_Me) (E : State → Prop) (w0 ws : va_W) (p : Program) (s : State) (m : MethodId) (args : Array Value) (meth : Method) (c : Code) (H : Heap) (locs : List Loc) : Prop :=
  p.tables.exec = Jvm.exec ∧ c.code = me.2.1 ∧ meth.sig.returnType = me.2.2.2 ∧ c.maxLocals = me.2.2.1 ∧ s.vm.findClass me.1.cls = some m.cls ∧ (∀ w ∈ sw_W, w.before args s = true) ∧ meth.locks = false ∧ gw_K Y s ∧ va_D (va_A w0 s.heap.size) ws ∧ E s ∧ va_P Y.2.1 vwCl ws H ∧ va_S (va_A w0 s.heap.size) s.heap H locs ∧ meth.name = me.1.name
def GW (Y : gw_D) (d mc ms : Nat) (me : sw_Me) (E : State → Prop) (R : va_W → Prop) (w0 : va_W) (k n : Nat) (pc : Nat) (L : List Value) (st : List Value) (ws : va_W) : Prop :=
  ∀ (p : Program) (e : Env) (s : State) (m : MethodId) (args : Array Value) (below : List Frame) (meth : Method) (c : Code) (H : Heap) (locs : List Loc) (ls : Array Slot),
    gw_C Y me E w0 ws p s m args meth c H locs → sw_has ls me.2.2.1 L → W p Y.1 e (gw_rm d mc ms) s m args below meth c H locs k n (MQ below (gw_Q Y w0 s.heap.size R) args s mc ms (va_A w0 s.heap.size)) (F0 m pc ls st)
theorem gw_get {B T : va_W} {x : Nat × va_E} : (B ++ x :: T)[B.length]? = some x := by simp
theorem gw_set {B T : va_W} {x y : Nat × va_E} : (B ++ x :: T).set B.length y = B ++ y :: T := by simp
theorem gw_get2 {B T : va_W} {x y : Nat × va_E} : (B ++ x :: y :: T)[B.length + 1]? = some y := by simp
theorem gw_set2 {B T : va_W} {x y z : Nat × va_E} : (B ++ x :: y :: T).set (B.length + 1) z = B ++ x :: z :: T := by simp
theorem gw_app {B T S : va_W} {x : Nat × va_E} : (B ++ x :: T) ++ S = B ++ x :: (T ++ S) := by simp
theorem gw_A {w0 ws : va_W} {a b : Nat} (h : va_D (va_A w0 a) ws) (hab : a ≤ b) : ∀ q, va_A ws b q → va_A w0 a q := by
  intro q hq
  rcases hq with ⟨k, e, hk⟩ | hq
  · exact h.2 k (q, e) hk
  · exact Or.inr (Nat.le_trans hab hq)
theorem gw_Pc_blind {Y : gw_D} {E : State → Prop} (hE : ∀ (U : State) (g : JFrame) (mk : MethodId) (a : Array Value), E U → E (U.calling g mk a)) {args : List Value} {ws : va_W} {sz : Nat} : FrameBlind (gw_Pc Y E args ws sz) := by
  intro a U g mk hq
  obtain ⟨h1, h2, h3, ⟨h4, h6⟩, h5, hE1⟩ := hq
  exact ⟨h1, h2, h3, ⟨va_K.moved (u := U) (U := U.calling g mk a) (Vm.Alike.refl U.vm) h4, fun w hw hn => va_Nw.same (u := U) (by cases w <;> first | rfl | exact absurd hn (by simp [sw_isNest])) rfl (h6 w hw hn)⟩, h5, hE _ _ _ _ hE1⟩
/-- what the tables say of a call of a constructor -/
def gw_CI (own : String) (idx n : Nat) (me : sw_Me) : Prop := sw_CB own idx n me ∧ Cond.methodLink own idx me.1 ∈ sw_W ∧ Cond.instanceMethod me.1 ∈ sw_W ∧ me.1.name = "<init>" ∧ me.2.2.2 = none
def gw_CIN (own : String) (idx n : Nat) (me : sw_Me) : Prop := sw_CB own idx n me ∧ (∃ host : String, Cond.methodLinkNest own idx me.1 host ∈ lw_tbl) ∧ Cond.instanceMethod me.1 ∈ sw_W ∧ me.1.name = "<init>" ∧ me.2.2.2 = none
/-- the field k of the objects of kind ci: of this type, final or not -/
def gw_FP (own : String) (idx ci k : Nat) (fin : Bool) (ty : FieldType) : Prop := ∃ (C : String) (T : u_T) (N : Nat), vwCl[ci]? = some (C, T, N) ∧ k < N ∧ Cond.fieldLink own idx (T k).1 (T k).2.1 (T k).2.2.1 ∈ sw_W ∧ (T k).2.2.2 = fin ∧ (T k).1 = own ∧ parseFieldDescriptor (T k).2.2.1 = some ty
theorem gw_cb {own : String} {idx n d d' mc ms mc' ms' : Nat} {me : sw_Me} {args : Array Value} {s : State} (hlt : d' < d) (hts : ∀ w ∈ sw_W, w.before args s = true) (h : sw_CB own idx n me) (hl : (Cond.methodLink own idx me.1).before args s = true) : CallB (gw_rm d mc ms) s args own idx me.1 me.2.1 me.2.2.1 me.2.2.2 (sw_wm me) (gw_rm d' mc' ms') mc' ms' n := by
  obtain ⟨h1, h2, h3, h4, h5⟩ := h
  refine ⟨rfl, rfl, hlt, ?_, sw_wm_ok hts h2, List.mem_cons_self, hts _ h2, hts _ h3, h4, fun sig h => ?_, hl⟩
  · show 8 + (me.2.2.1 + 11) + 38 * d' ≤ 38 * d
    omega
  · rw [h] at h5
    exact (Option.some.inj h5).symm
theorem gw_cbN {own host : String} {idx n d d' mc ms mc' ms' : Nat} {me : sw_Me} {args : Array Value} {s : State} (hlt : d' < d) (hts : ∀ w ∈ sw_W, w.before args s = true) (h : sw_CB own idx n me) (hl : (Cond.methodLinkNest own idx me.1 host).before args s = true) : va_CN (gw_rm d mc ms) s args own idx me.1 host me.2.1 me.2.2.1 me.2.2.2 (sw_wm me) (gw_rm d' mc' ms') mc' ms' n := by
  obtain ⟨h1, h2, h3, h4, h5⟩ := h
  refine ⟨⟨rfl, rfl, hlt, ?_, sw_wm_ok hts h2, List.mem_cons_self⟩, hts _ h2, hts _ h3, h4, fun sig h => ?_, hl⟩
  · show 8 + (me.2.2.1 + 11) + 38 * d' ≤ 38 * d
    omega
  · rw [h] at h5
    exact (Option.some.inj h5).symm
section GWR
variable {Y : gw_D} {d d' mc ms mc' ms' k n : Nat} {me mx : sw_Me} {E : State → Prop} {R Rc : va_W → Prop} {w0 ws B T zs : va_W} {pc q : Nat} {L st rest As : List Value} {x y : Int32}
theorem GW.iconst {i : Int} {v : Int32} (hd : decode me.2.1 pc = .ok (.iconst i, 1)) (hv : Int32.ofInt i = v) (hq : pc + 1 = q) (kk : GW Y d mc ms me E R w0 k n q L (.int v :: st) ws) : GW Y d mc ms me E R w0 k n pc L st ws := by
  subst hq
  intro p e s m args below meth c H locs ls C hl
  exact lv_iconst C.1 C.2.1 hd hv (kk p e s m args below meth c H locs ls C hl)
theorem GW.bipush {i : Int} {v : Int32} (hd : decode me.2.1 pc = .ok (.bipush i, 2)) (hv : (Int8.ofInt i).toInt32 = v) (hq : pc + 2 = q) (kk : GW Y d mc ms me E R w0 k n q L (.int v :: st) ws) : GW Y d mc ms me E R w0 k n pc L st ws := by
  subst hq
  intro p e s m args below meth c H locs ls C hl
  exact lv_bipush C.1 C.2.1 hd hv (kk p e s m args below meth c H locs ls C hl)
theorem GW.sipush {i : Int} {v : Int32} (hd : decode me.2.1 pc = .ok (.sipush i, 3)) (hv : (Int16.ofInt i).toInt32 = v) (hq : pc + 3 = q) (kk : GW Y d mc ms me E R w0 k n q L (.int v :: st) ws) : GW Y d mc ms me E R w0 k n pc L st ws := by
  subst hq
  intro p e s m args below meth c H locs ls C hl
  exact lv_sipush C.1 C.2.1 hd hv (kk p e s m args below meth c H locs ls C hl)
theorem GW.iload_n {j : Fin 4} {i : Nat} (hd : decode me.2.1 pc = .ok (.iload_n j, 1)) (hi : (j : Nat) = i) (hL : L[i]? = some (.int x)) (hq : pc + 1 = q) (kk : GW Y d mc ms me E R w0 k n q L (.int x :: st) ws) : GW Y d mc ms me E R w0 k n pc L st ws := by
  subst hq
  intro p e s m args below meth c H locs ls C hl
  exact lv_iload_n C.1 C.2.1 hd hi (hl.get hL (fun h => by cases h)) (kk p e s m args below meth c H locs ls C hl)
theorem GW.aload_n {j : Fin 4} {i a : Nat} (hd : decode me.2.1 pc = .ok (.aload_n j, 1)) (hi : (j : Nat) = i) (hL : L[i]? = some (.ref a)) (hq : pc + 1 = q) (kk : GW Y d mc ms me E R w0 k n q L (.ref a :: st) ws) : GW Y d mc ms me E R w0 k n pc L st ws := by
  subst hq
  intro p e s m args below meth c H locs ls C hl
  exact lv_aload_n C.1 C.2.1 hd hi (hl.get hL (fun h => by cases h)) (kk p e s m args below meth c H locs ls C hl)
theorem GW.istore_n {j : Fin 4} {i : Nat} (hd : decode me.2.1 pc = .ok (.istore_n j, 1)) (hi : (j : Nat) = i) (hn : i < me.2.2.1) (hq : pc + 1 = q) (kk : GW Y d mc ms me E R w0 k n q (L.set i (.int x)) st ws) : GW Y d mc ms me E R w0 k n pc L (.int x :: st) ws := by
  subst hq; subst hi
  intro p e s m args below meth c H locs ls C hl
  obtain ⟨ls', e', h'⟩ := hl.store (v := .int x) hn rfl
  intro T hT X
  obtain ⟨t, a, b⟩ := kk p e s m args below meth c H locs ls' C h' T hT X
  refine ⟨t, ?_, b⟩
  have hexec := C.1
  have hb := C.2.1
  jvm_step X.here [X.here.top, ↓top_set X.here.top, hexec, hb, hd, e']
  exact a
theorem GW.iinc {i : Nat} {j : Int} {v : Int32} (hd : decode me.2.1 pc = .ok (.iinc i j, 3)) (hL : L[i]? = some (.int x)) (hv : x + Int32.ofInt j = v) (hn : i < me.2.2.1) (hq : pc + 3 = q) (kk : GW Y d mc ms me E R w0 k n q (L.set i (.int v)) st ws) : GW Y d mc ms me E R w0 k n pc L st ws := by
  subst hq; subst hv
  intro p e s m args below meth c H locs ls C hl
  have hg := hl.get hL (fun h => by cases h)
  obtain ⟨ls', e', h'⟩ := hl.store (v := .int (x + Int32.ofInt j)) hn rfl
  intro T hT X
  obtain ⟨t, a, b⟩ := kk p e s m args below meth c H locs ls' C h' T hT X
  refine ⟨t, ?_, b⟩
  have hexec := C.1
  have hb := C.2.1
  jvm_step X.here [X.here.top, ↓top_set X.here.top, hexec, hb, hd, hg, e']
  exact a
theorem GW.dup {va : Value} (hd : decode me.2.1 pc = .ok (.dup, 1)) (hva : va.category = 1) (hq : pc + 1 = q) (kk : GW Y d mc ms me E R w0 k n q L (va :: va :: rest) ws) : GW Y d mc ms me E R w0 k n pc L (va :: rest) ws := by
  subst hq
  intro p e s m args below meth c H locs ls C hl
  exact lv_dup C.1 C.2.1 hd hva (kk p e s m args below meth c H locs ls C hl)
theorem GW.goto {off : Int} (hd : decode me.2.1 pc = .ok (.goto off, 3)) (hq : (pc : Int) + off = (q : Int)) (kk : GW Y d mc ms me E R w0 k n q L st ws) : GW Y d mc ms me E R w0 k n pc L st ws := by
  intro p e s m args below meth c H locs ls C hl
  exact lv_goto C.1 C.2.1 hd hq (kk p e s m args below meth c H locs ls C hl)
theorem GW.icmp_ge {off : Int} {tgt : Nat} (hd : decode me.2.1 pc = .ok (.if_icmp .ge off, 3)) (ht : (pc : Int) + off = (tgt : Int)) (hq : pc + 3 = q) (kt : y ≤ x → GW Y d mc ms me E R w0 k n tgt L rest ws) (kf : ¬ y ≤ x → GW Y d mc ms me E R w0 k n q L rest ws) : GW Y d mc ms me E R w0 k n pc L (.int y :: .int x :: rest) ws := by
  subst hq
  intro p e s m args below meth c H locs ls C hl
  exact lv_icmp_ge C.1 C.2.1 hd ht (fun h => kt h p e s m args below meth c H locs ls C hl) (fun h => kf h p e s m args below meth c H locs ls C hl)
theorem GW.if_lt {off : Int} {tgt : Nat} (hd : decode me.2.1 pc = .ok (.ifCond .lt off, 3)) (ht : (pc : Int) + off = (tgt : Int)) (hq : pc + 3 = q) (kt : x < 0 → GW Y d mc ms me E R w0 k n tgt L rest ws) (kf : ¬ x < 0 → GW Y d mc ms me E R w0 k n q L rest ws) : GW Y d mc ms me E R w0 k n pc L (.int x :: rest) ws := by
  subst hq
  intro p e s m args below meth c H locs ls C hl
  exact lv_if_lt C.1 C.2.1 hd ht (fun h => kt h p e s m args below meth c H locs ls C hl) (fun h => kf h p e s m args below meth c H locs ls C hl)
theorem GW.vret (hr : me.2.2.2 = none) (hd : decode me.2.1 pc = .ok (.return_, 1)) (hk : k ≤ mc) (hn : n ≤ ms) (hR : R ws) : GW Y d mc ms me E R w0 k n pc L [] ws := by
  intro p e s m args below meth c H locs ls C hl
  obtain ⟨hx, hb, hr', hml, hown, hts, hlk, hK, hD, hE, hP, hS, hnm⟩ := C
  refine W.widen (k := mc) (n := ms) hk hn ?_
  exact W.vret hx hb (hr'.trans hr) (fun t ht hW => ⟨⟨_, rfl, hR, by rw [ht]; exact hP, hD⟩, hS.F ht⟩) hS.2.2 hd hlk
theorem GW.objInit {idx a : Nat} (h1 : Cond.methodLink me.1.cls idx Lib.objectInit ∈ sw_W) (h2 : Cond.instanceMethod Lib.objectInit ∈ sw_W) (h3 : Cond.code Lib.objectInit ⟨#[0xb1]⟩ 1 none ∈ sw_W) (hd1 : 1 ≤ d) (hrm : (rest.map fun v => v.category).sum ≤ 8) (hd : decode me.2.1 pc = .ok (.invokespecial idx, 3)) (hq : pc + 3 = q) (kk : GW Y d mc ms me E R w0 k n q L rest ws) : GW Y d mc ms me E R w0 k n pc L (.ref a :: rest) ws := by
  subst hq
  intro p e s m args below meth c H locs ls C hl
  have kk := kk p e s m args below meth c H locs ls C hl
  obtain ⟨hx, hb, hr', hml, hown, hts, hlk, hK, hD, hE, hP, hS, hnm⟩ := C
  exact W.objInit hx hb hown (hts _ h1) (hts _ h2) (hts _ h3) rfl (by rw [hml]; exact hl.1) rfl hd hd1 (by show 2 * 0 + _ + 12 ≤ 38 * d; omega) kk
theorem GW.new {idx ci N : Nat} {C : String} {Tf : u_T} {ty : Nat → FieldType} {fs : List Value} (hc : vwCl[ci]? = some (C, Tf, N)) (hty : ∀ k, k < N → parseFieldDescriptor (Tf k).2.2.1 = some (ty k)) (hfs : ∀ j, j < N → defaultValue (ty j) = vp_V fs j) (h1 : Cond.classLink me.1.cls idx C ∈ sw_W) (h2 : Cond.instantiable C N ∈ sw_W) (h3 : Cond.initialized C ∈ sw_W) (hk : k + 1 ≤ mc) (hn : n + N ≤ ms) (hd : decode me.2.1 pc = .ok (.new idx, 3)) (hq : pc + 3 = q) (kk : ∀ a, GW Y d mc ms me E R w0 (k + 1) (n + N) q L (.ref a :: st) (ws ++ [(a, .inr (ci, fs))])) : GW Y d mc ms me E R w0 k n pc L st ws := by
  subst hq
  intro p e s m args below meth c H locs ls C0 hl
  obtain ⟨hx, hb, hr', hml, hown, hts, hlk, hK, hD, hE, hP, hS, hnm⟩ := C0
  exact va_new (Ts := sw_W) hx hb hts (sw_cls ci _ hc).1 ty hty hown (hts _ h1) (hts _ h2) (hts _ h3) hK.1 hP hD hS (fun q h => Or.inr h) hc hfs hk hn hd (fun a H1 hP1 hD1 hS1 =>
    kk a p e s m args below meth c H1 locs ls ⟨hx, hb, hr', hml, hown, hts, hlk, hK, hD1, hE, hP1, hS1, hnm⟩ hl)
theorem gw_one {Y : gw_D} {s : State} {cA : ClassId} {ty : FieldType} {i : Nat} {cB : ClassId} (hK : va_K Y.2.1 vwCl (gw_tys Y) s) (hK1 : va_K Y.2.1 vwCl (gw_tys Y ++ [(cA, ty)]) s) (hi : (gw_tys Y)[i]? = some (cB, ty)) (hty : ∀ C, ty ≠ .object C) : cA = cB := by
  have h1 := (hK1.2 2 (cA, ty) rfl).2
  have h2 := (hK.2 i _ hi).2
  cases ty <;> first | exact absurd rfl (hty _) | exact Option.some.inj (h1.symm.trans h2)
theorem GW.newi {N : Nat} (harr : Cond.arrayClass .int ∈ sw_W) (hN : N ≤ 100000) (hx0 : x = nI N) (hk : k + 1 ≤ mc) (hn : n + N ≤ ms) (hd : decode me.2.1 pc = .ok (.newarray .int, 2)) (hq : pc + 2 = q) (kk : ∀ a, GW Y d mc ms me E R w0 (k + 1) (n + N) q L (.ref a :: st) (ws ++ [(a, .inl (Y.2.2.1, N, .inl (fun _ => 0)))])) : GW Y d mc ms me E R w0 k n pc L (.int x :: st) ws := by
  subst hq
  subst hx0
  intro p e s m args below meth c H locs ls C0 hl
  obtain ⟨hx, hb, hr', hml, hown, hts, hlk, hK, hD, hE, hP, hS, hnm⟩ := C0
  refine va_newa (atype := .int) hx hb (hts _ harr) rfl hK.1 hP hD hS (fun q h => Or.inr h) (a0 := (N, .inl (fun _ => 0))) (N' := N) (fun _ => rfl) (nI_pos (by omega)) (nI_clamp (by omega)) (by show N * 4 ≤ _; omega) hk hn hd (fun a cA H1 hK1 hP1 hD1 hS1 => ?_)
  obtain rfl := gw_one (i := 0) hK.1 hK1 rfl (fun _ h => by cases h)
  exact kk a p e s m args below meth c H1 locs ls ⟨hx, hb, hr', hml, hown, hts, hlk, hK, hD1, hE, hP1, hS1, hnm⟩ hl
theorem GW.newz {N : Nat} (harr : Cond.arrayClass .boolean ∈ sw_W) (hN : N ≤ 100000) (hx0 : x = nI N) (hk : k + 1 ≤ mc) (hn : n + N ≤ ms) (hd : decode me.2.1 pc = .ok (.newarray .boolean, 2)) (hq : pc + 2 = q) (kk : ∀ a, GW Y d mc ms me E R w0 (k + 1) (n + N) q L (.ref a :: st) (ws ++ [(a, .inl (Y.2.2.2, N, .inl (fun _ => 0)))])) : GW Y d mc ms me E R w0 k n pc L (.int x :: st) ws := by
  subst hq
  subst hx0
  intro p e s m args below meth c H locs ls C0 hl
  obtain ⟨hx, hb, hr', hml, hown, hts, hlk, hK, hD, hE, hP, hS, hnm⟩ := C0
  refine va_newa (atype := .boolean) hx hb (hts _ harr) rfl hK.1 hP hD hS (fun q h => Or.inr h) (a0 := (N, .inl (fun _ => 0))) (N' := N) (fun _ => rfl) (nI_pos (by omega)) (nI_clamp (by omega)) (by show N * 1 ≤ _; omega) hk hn hd (fun a cA H1 hK1 hP1 hD1 hS1 => ?_)
  obtain rfl := gw_one (i := 1) hK.1 hK1 rfl (fun _ h => by cases h)
  exact kk a p e s m args below meth c H1 locs ls ⟨hx, hb, hr', hml, hown, hts, hlk, hK, hD1, hE, hP1, hS1, hnm⟩ hl
/-- a field of the object that is being made -/
theorem GW.put {idx ci j h : Nat} {fs : List Value} {fin : Bool} {ty : FieldType} {v : Value} (hF : gw_FP me.1.cls idx ci j fin ty) (hin : me.1.name = "<init>") (hv : narrow ty v = v) (hfit : fits ty v = true) (hj : j < fs.length) (hd : decode me.2.1 pc = .ok (.putfield idx, 3)) (hq : pc + 3 = q) (kk : GW Y d mc ms me E R w0 k n q L st (B ++ (h, .inr (ci, fs.set j v)) :: T)) : GW Y d mc ms me E R w0 k n pc L (v :: .ref h :: st) (B ++ (h, .inr (ci, fs)) :: T) := by
  subst hq
  intro p e s m args below meth c H locs ls C0 hl
  obtain ⟨hx, hb, hr', hml, hown, hts, hlk, hK, hD, hE, hP, hS, hnm⟩ := C0
  obtain ⟨C, Tf, N, hc, hjN, hw, hfin, hdecl, hpd⟩ := hF
  have hcl := sw_cls ci _ hc
  obtain ⟨ty0, hty⟩ := hcl.2.1
  cases fin
  · refine va_put (Ts := sw_W) (A := va_A w0 s.heap.size) hx hb hts hcl.1 ty0 hty hcl.2.2 hown hK.1 hP hD hS B.length gw_get hc j hjN (hts _ hw) (fun _ h => h) hfin hpd hv hfit hj hd (fun H1 locs1 hP1 hD1 hS1 => ?_)
    rw [gw_set] at hP1 hD1
    exact kk p e s m args below meth c H1 locs1 ls ⟨hx, hb, hr', hml, hown, hts, hlk, hK, hD1, hE, hP1, hS1, hnm⟩ hl
  · refine va_putF (Ts := sw_W) (A := va_A w0 s.heap.size) hx hb hts hcl.1 ty0 hty hcl.2.2 hown hK.1 hP hD hS B.length gw_get hc j hjN (hts _ hw) (fun _ h => h) hfin (hnm.trans hin) hdecl hpd hv hfit hj hd (fun H1 locs1 hP1 hD1 hS1 => ?_)
    rw [gw_set] at hP1 hD1
    exact kk p e s m args below meth c H1 locs1 ls ⟨hx, hb, hr', hml, hown, hts, hlk, hK, hD1, hE, hP1, hS1, hnm⟩ hl
theorem GW.get {idx ci j h : Nat} {fs : List Value} {v : Value} (hF : sw_FL me.1.cls idx ci j) (hv : fs[j]? = some v) (hd : decode me.2.1 pc = .ok (.getfield idx, 3)) (hq : pc + 3 = q) (kk : GW Y d mc ms me E R w0 k n q L (v :: st) (B ++ (h, .inr (ci, fs)) :: T)) : GW Y d mc ms me E R w0 k n pc L (.ref h :: st) (B ++ (h, .inr (ci, fs)) :: T) := by
  subst hq
  intro p e s m args below meth c H locs ls C0 hl
  have kk := kk p e s m args below meth c H locs ls C0 hl
  obtain ⟨hx, hb, hr', hml, hown, hts, hlk, hK, hD, hE, hP, hS, hnm⟩ := C0
  obtain ⟨C, Tf, N, hc, hjN, hw⟩ := hF
  rcases hw with hw | ⟨host, hw⟩
  · exact va_get (Ts := sw_W) hx hb hts (sw_cls ci _ hc).1 hown hK.1 hP B.length gw_get hc j hjN (hts _ hw) (fun _ h => h) hv hd kk
  · exact va_getN (Ts := sw_W) hx hb hts (sw_cls ci _ hc).1 hown hK.1 hP B.length gw_get hc j hjN (va_Nw.use rfl (hK.2 _ hw rfl)) (fun _ h => h) hv hd kk
/-- an int into the array behind the object -/
theorem GW.iast {N a : Nat} {f : Nat → Int32} {z : Nat × va_E} (hin : vp_in x N) (hd : decode me.2.1 pc = .ok (.iastore, 1)) (hq : pc + 1 = q) (kk : GW Y d mc ms me E R w0 k n q L st (B ++ z :: (a, .inl (Y.2.2.1, N, .inl (upd f x.toNatClampNeg y))) :: T)) : GW Y d mc ms me E R w0 k n pc L (.int y :: .int x :: .ref a :: st) (B ++ z :: (a, .inl (Y.2.2.1, N, .inl f)) :: T) := by
  subst hq
  intro p e s m args below meth c H locs ls C0 hl
  obtain ⟨hx, hb, hr', hml, hown, hts, hlk, hK, hD, hE, hP, hS, hnm⟩ := C0
  refine va_iast (A := va_A w0 s.heap.size) hx hb hK.1 hP hD hS (B.length + 1) 0 gw_get2 rfl hin hd (fun H1 locs1 hP1 hD1 hS1 => ?_)
  rw [gw_set2] at hP1 hD1
  exact kk p e s m args below meth c H1 locs1 ls ⟨hx, hb, hr', hml, hown, hts, hlk, hK, hD1, hE, hP1, hS1, hnm⟩ hl
theorem GW.alen {N a : Nat} {f : Nat → Int32} {z : Nat × va_E} {v : Int32} (hv : Int32.ofNat N = v) (hd : decode me.2.1 pc = .ok (.arraylength, 1)) (hq : pc + 1 = q) (kk : GW Y d mc ms me E R w0 k n q L (.int v :: st) (B ++ z :: (a, .inl (Y.2.2.1, N, .inl f)) :: T)) : GW Y d mc ms me E R w0 k n pc L (.ref a :: st) (B ++ z :: (a, .inl (Y.2.2.1, N, .inl f)) :: T) := by
  subst hq
  intro p e s m args below meth c H locs ls C0 hl
  have kk := kk p e s m args below meth c H locs ls C0 hl
  obtain ⟨hx, hb, hr', hml, hown, hts, hlk, hK, hD, hE, hP, hS, hnm⟩ := C0
  exact va_alen hx hb hK.1 hP (B.length + 1) 0 gw_get2 (ty := .int) rfl hv hd kk
theorem GW.max {idx : Nat} (h1 : Cond.methodLink me.1.cls idx Lib.Math.max.name ∈ sw_W) (h2 : Cond.static Lib.Math.max.name ∈ sw_W) (h3 : Cond.initialized "java/lang/Math" ∈ sw_W) (h4 : Cond.code Lib.Math.max.name Lib.Math.max.code 2 (some .int) ∈ sw_W) (hd1 : 1 ≤ d) (hrm : (rest.map fun v => v.category).sum ≤ 8) (hk : k ≤ mc) (hn : n ≤ ms) (hd : decode me.2.1 pc = .ok (.invokestatic idx, 3)) (hq : pc + 3 = q) (kk : GW Y d mc ms me E R w0 k n q L (.int (if x < y then y else x) :: rest) ws) : GW Y d mc ms me E R w0 k n pc L (.int y :: .int x :: rest) ws := by
  subst hq
  intro p e s m args below meth c H locs ls C0 hl
  have kk := kk p e s m args below meth c H locs ls C0 hl
  obtain ⟨hx, hb, hr', hml, hown, hts, hlk, hK, hD, hE, hP, hS, hnm⟩ := C0
  exact va_mmax hx hb (by rw [hml]; exact hl.1.symm) hown (hts _ h1) (hts _ h2) (hts _ h3) (hts _ h4) hd1 (by show _ + 13 ≤ 38 * d; omega) hk hn hd kk
/-- a call over the world's last cells: what comes back stands in their place -/
theorem gw_back {p : Program} {e : Env} {s : State} {m : MethodId} {args : Array Value} {below : List Frame} {meth : Method} {c : Code} {H : Heap} {locs : List Loc} {ls : Array Slot} {av : Array Value} {z : Nat × va_E} (C0 : gw_C Y me E w0 (B ++ z :: (T ++ zs)) p s m args meth c H locs) (hl : sw_has ls me.2.2.1 L)
    (hr : va_Run p Y.1 e (gw_rm d mc ms) s m args below meth c H locs k n mc' ms' (F0 m pc ls st) rest (gw_Q Y ((B ++ z :: T) ++ zs) H.size (fun ws' => ∃ cs, ws' = (B ++ z :: T) ++ cs ∧ Rc cs) av) (va_A ((B ++ z :: T) ++ zs) H.size)) (hq : pc + 3 = q)
    (kk : ∀ cs, Rc cs → GW Y d mc ms me E R w0 (k + mc') (n + ms') q L rest (B ++ z :: (T ++ cs))) : W p Y.1 e (gw_rm d mc ms) s m args below meth c H locs k n (MQ below (gw_Q Y w0 s.heap.size R) args s mc ms (va_A w0 s.heap.size)) (F0 m pc ls st) := by
  subst hq
  obtain ⟨hx, hb, hr', hml, hown, hts, hlk, hK, hD, hE, hP, hS, hnm⟩ := C0
  have hD' : va_D (va_A w0 s.heap.size) ((B ++ z :: T) ++ zs) := by rw [gw_app]; exact hD
  have hA := gw_A hD' hS.1
  refine va_callv hr hS (fun q _ h => hA q h) hA (fun u t H1 locs1 ht hvm hpost hB hz hkeep hS1 => ?_)
  obtain ⟨cs, rfl, hR⟩ := hpost
  obtain ⟨hP1, hD1⟩ := hB
  rw [ht] at hP1
  have hD2 := hD1.weaken (fun _ q _ h => hA q.1 h)
  rw [gw_app] at hP1 hD2
  exact kk cs hR p e s m args below meth c H1 locs1 ls ⟨hx, hb, hr', hml, hown, hts, hlk, hK, hD2, hE, hP1, hS1, hnm⟩ hl
theorem gw_pre {p : Program} {s : State} {m : MethodId} {args : Array Value} {meth : Method} {c : Code} {H : Heap} {locs : List Loc} {z : Nat × va_E} (C0 : gw_C Y me E w0 (B ++ z :: (T ++ zs)) p s m args meth c H locs) (av : List Value) : ∀ U : State, U.heap = H → s.WarmedH U.vm → gw_Pc Y sw_E0 av ((B ++ z :: T) ++ zs) H.size av.toArray U := by
  obtain ⟨hx, hb, hr', hml, hown, hts, hlk, hK, hD, hE, hP, hS, hnm⟩ := C0
  rw [← gw_app] at hP hD
  intro U hU hW
  exact ⟨rfl, by rw [hU], by rw [hU]; exact hP, hK.warm hW, hD.weaken (fun _ _ _ _ => trivial), trivial⟩
theorem GW.callI {idx n' a : Nat} {z : Nat × va_E} (hM : gw_I Y d' mc' ms' mx (.ref a :: As) zs Rc) (hC : gw_CI me.1.cls idx n' mx) (hlt : d' < d) (hk : k + mc' ≤ mc) (hn : n + ms' ≤ ms) (hna : As.length = n') (hst : st = As.reverse ++ .ref a :: rest) (hrm : (rest.map fun v => v.category).sum ≤ 8) (hd : decode me.2.1 pc = .ok (.invokespecial idx, 3)) (hq : pc + 3 = q)
    (kk : ∀ cs, Rc cs → GW Y d mc ms me E R w0 (k + mc') (n + ms') q L rest (B ++ z :: (T ++ cs))) : GW Y d mc ms me E R w0 k n pc L st (B ++ z :: (T ++ zs)) := by
  intro p e s m args below meth c H locs ls C0 hl
  have C1 := C0
  obtain ⟨hx, hb, hr', hml, hown, hts, hlk, hK, hD, hE, hP, hS, hnm⟩ := C1
  obtain ⟨c1, c2, c3, c4, c5⟩ := hC
  have hcb := gw_cb (mc := mc) (ms := ms) (mc' := mc') (ms' := ms') hlt hts c1 (hts _ c2)
  rw [c5] at hcb
  exact gw_back C0 hl (va_runI (As := As) (rest := rest) (Ts := sw_W) ⟨hx, hb, hml, hown, hts⟩ (hM (B ++ z :: T) H.size) ⟨hcb, c4, hts _ c3⟩ ⟨gw_Pc_blind (fun _ _ _ _ h => h), gw_pre C0 _⟩ rfl hna hl.1 hst (lv_room hrm) hd ⟨hk, hn⟩) hq kk
theorem GW.callIN {idx n' a : Nat} {z : Nat × va_E} (hM : gw_I Y d' mc' ms' mx (.ref a :: As) zs Rc) (hC : gw_CIN me.1.cls idx n' mx) (hlt : d' < d) (hk : k + mc' ≤ mc) (hn : n + ms' ≤ ms) (hna : As.length = n') (hst : st = As.reverse ++ .ref a :: rest) (hrm : (rest.map fun v => v.category).sum ≤ 8) (hd : decode me.2.1 pc = .ok (.invokespecial idx, 3)) (hq : pc + 3 = q)
    (kk : ∀ cs, Rc cs → GW Y d mc ms me E R w0 (k + mc') (n + ms') q L rest (B ++ z :: (T ++ cs))) : GW Y d mc ms me E R w0 k n pc L st (B ++ z :: (T ++ zs)) := by
  intro p e s m args below meth c H locs ls C0 hl
  have C1 := C0
  obtain ⟨hx, hb, hr', hml, hown, hts, hlk, hK, hD, hE, hP, hS, hnm⟩ := C1
  obtain ⟨c1, ⟨host, c2⟩, c3, c4, c5⟩ := hC
  have hcb := gw_cbN (mc := mc) (ms := ms) (mc' := mc') (ms' := ms') hlt hts c1 (va_Nw.use rfl (hK.2 _ c2 rfl))
  rw [c5] at hcb
  exact gw_back C0 hl (va_runIN (As := As) (rest := rest) (Ts := sw_W) ⟨hx, hb, hml, hown, hts⟩ (hM (B ++ z :: T) H.size) ⟨hcb, c4, hts _ c3⟩ ⟨gw_Pc_blind (fun _ _ _ _ h => h), gw_pre C0 _⟩ rfl hna hl.1 hst (lv_room hrm) hd ⟨hk, hn⟩) hq kk
theorem GW.callV {idx n' a ci j : Nat} {z : Nat × va_E} {fs : List Value} (hM : gw_I Y d' mc' ms' mx (.ref a :: As) zs Rc) (hC : sw_CV me.1.cls idx n' mx) (hr0 : mx.2.2.2 = none) (hz : zs[j]? = some (a, .inr (ci, fs))) (hcl : (vwCl[ci]?).map (fun q => q.1) = some mx.1.cls) (hlt : d' < d) (hk : k + mc' ≤ mc) (hn : n + ms' ≤ ms) (hna : As.length = n') (hst : st = As.reverse ++ .ref a :: rest) (hrm : (rest.map fun v => v.category).sum ≤ 8) (hd : decode me.2.1 pc = .ok (.invokevirtual idx, 3)) (hq : pc + 3 = q)
    (kk : ∀ cs, Rc cs → GW Y d mc ms me E R w0 (k + mc') (n + ms') q L rest (B ++ z :: (T ++ cs))) : GW Y d mc ms me E R w0 k n pc L st (B ++ z :: (T ++ zs)) := by
  intro p e s m args below meth c H locs ls C0 hl
  have C1 := C0
  obtain ⟨hx, hb, hr', hml, hown, hts, hlk, hK, hD, hE, hP, hS, hnm⟩ := C1
  obtain ⟨c1, c2, c3, c4⟩ := hC
  obtain ⟨q0, hq0, hq1⟩ := Option.map_eq_some_iff.mp hcl
  have he : (B ++ z :: (T ++ zs))[(B ++ z :: T).length + j]? = some (a, .inr (ci, fs)) := by
    rw [← gw_app, List.getElem?_append_right (by omega), Nat.add_sub_cancel_left]
    exact hz
  have hrec := va_recv hK.1 hP hq0 he
  rw [hq1] at hrec
  exact gw_back C0 hl (va_runV (As := As) (rest := rest) (Ts := sw_W) ⟨hx, hb, hml, hown, hts⟩ (hM (B ++ z :: T) H.size) ⟨gw_cb (mc := mc) (ms := ms) (mc' := mc') (ms' := ms') hlt hts c1 (hts _ c2), hts _ c3, hts _ c4⟩ ⟨gw_Pc_blind (fun _ _ _ _ h => h), hrec, gw_pre C0 _⟩ rfl hna hl.1 hst (lv_room hrm) hd ⟨hk, hn⟩) hq kk
/-- a contract out of a walk from the entry -/
theorem gw_M.of {args Lu : List Value} (hp : plainFor me.1 = true) (hL : args ++ List.replicate (me.2.2.1 - args.length) .null = Lu) (hlen : args.length ≤ me.2.2.1) (hcat : args.all (fun v => decide (v.category = 1)) = true) (kk : GW Y d mc ms me E R ws 0 0 0 Lu [] ws) : gw_M Y d mc ms E me args ws R := by
  intro sz
  refine sw_metF (cc := me.2.1) (maxL := me.2.2.1) (ret := me.2.2.2) hp rfl ?_
  intro p e s m av below meth c s₁ B hml hv
  obtain ⟨rfl, hsz, hP, hK, hD, hE⟩ := hv
  have hts : ∀ w ∈ sw_W, w.before args.toArray s = true := fun w hw => atoms_spec (ws := sw_wm me) B.pre w (List.mem_cons_of_mem _ hw)
  have hown : s.vm.findClass me.1.cls = some m.cls := findClass_of_methodNamed B.named
  subst hsz
  have hc1 : ∀ v ∈ args, v.category = 1 := fun v hv => by simpa using List.all_eq_true.mp hcat v hv
  have hsl : ∀ l : List Value, (∀ v ∈ l, v.category = 1) → lg_sl l = l.map (fun v => Slot.val v) ∧ ∀ (k i : Nat) (v : Value), l[i]? = some v → (k + i, v) ∈ lv_args k l := by
    intro l
    induction l with
    | nil => exact fun _ => ⟨rfl, fun k i v h => by simp at h⟩
    | cons a l ih =>
      intro h
      obtain ⟨i1, i2⟩ := ih (fun v hv => h v (List.mem_cons_of_mem _ hv))
      have ha : a.category = 1 := h a List.mem_cons_self
      refine ⟨?_, fun k i v hi => ?_⟩
      · rw [List.map_cons, ← i1]
        simp [lg_sl, List.flatMap_cons, ha]
      · simp only [lv_args, ha]
        cases i with
        | zero =>
          simp at hi
          subst hi
          exact List.mem_cons_self
        | succ i =>
          have := i2 (k + 1) i v (by simpa using hi)
          rw [show k + (i + 1) = k + 1 + i by omega]
          exact List.mem_cons_of_mem _ this
  obtain ⟨hs1, hs2⟩ := hsl args hc1
  have hlen' : (lg_sl args).length ≤ me.2.2.1 := by rw [hs1, List.length_map]; exact hlen
  have hl := lv_entry args (n := me.2.2.1) hlen'
  rw [lg_entry_eq]
  generalize (lg_sl args ++ List.replicate (me.2.2.1 - (lg_sl args).length) Slot.unset).toArray = ls at hl ⊢
  refine kk p e s m args.toArray below meth c s.heap [] ls ⟨B.exec, B.bytes, B.returns, hml, hown, hts, B.notSynchronized, hK, hD.self, hE, hP, va_S.rf, (name_of_methodNamed B.named B.method).1⟩ ⟨hl.1, hl.2.1, fun i v hi hv => ?_⟩
  rw [← hL, List.getElem?_append] at hi
  split at hi
  · refine ⟨?_, hc1 v (List.mem_of_getElem? hi)⟩
    have := hl.2.2 _ (hs2 0 i v hi)
    simpa using this
  · rw [List.getElem?_replicate] at hi
    split at hi
    · cases hi
      exact absurd rfl hv
    · cases hi
theorem GW.newT {idx ci N : Nat} {C : String} {Tf : u_T} {ty : Nat → FieldType} {fs : List Value} {z : Nat × va_E} (hc : vwCl[ci]? = some (C, Tf, N)) (hty : ∀ k, k < N → parseFieldDescriptor (Tf k).2.2.1 = some (ty k)) (hfs : ∀ j, j < N → defaultValue (ty j) = vp_V fs j) (h1 : Cond.classLink me.1.cls idx C ∈ sw_W) (h2 : Cond.instantiable C N ∈ sw_W) (h3 : Cond.initialized C ∈ sw_W) (hk : k + 1 ≤ mc) (hn : n + N ≤ ms) (hd : decode me.2.1 pc = .ok (.new idx, 3)) (hq : pc + 3 = q) (kk : ∀ a, GW Y d mc ms me E R w0 (k + 1) (n + N) q L (.ref a :: st) (B ++ z :: (T ++ [(a, .inr (ci, fs))]))) : GW Y d mc ms me E R w0 k n pc L st (B ++ z :: T) :=
  GW.new hc hty hfs h1 h2 h3 hk hn hd hq (fun a => by rw [gw_app]; exact kk a)
theorem GW.newiT {N : Nat} {z : Nat × va_E} (harr : Cond.arrayClass .int ∈ sw_W) (hN : N ≤ 100000) (hx0 : x = nI N) (hk : k + 1 ≤ mc) (hn : n + N ≤ ms) (hd : decode me.2.1 pc = .ok (.newarray .int, 2)) (hq : pc + 2 = q) (kk : ∀ a, GW Y d mc ms me E R w0 (k + 1) (n + N) q L (.ref a :: st) (B ++ z :: (T ++ [(a, .inl (Y.2.2.1, N, .inl (fun _ => 0)))]))) : GW Y d mc ms me E R w0 k n pc L (.int x :: st) (B ++ z :: T) :=
  GW.newi harr hN hx0 hk hn hd hq (fun a => by rw [gw_app]; exact kk a)
theorem GW.newzT {N : Nat} {z : Nat × va_E} (harr : Cond.arrayClass .boolean ∈ sw_W) (hN : N ≤ 100000) (hx0 : x = nI N) (hk : k + 1 ≤ mc) (hn : n + N ≤ ms) (hd : decode me.2.1 pc = .ok (.newarray .boolean, 2)) (hq : pc + 2 = q) (kk : ∀ a, GW Y d mc ms me E R w0 (k + 1) (n + N) q L (.ref a :: st) (B ++ z :: (T ++ [(a, .inl (Y.2.2.2, N, .inl (fun _ => 0)))]))) : GW Y d mc ms me E R w0 k n pc L (.int x :: st) (B ++ z :: T) :=
  GW.newz harr hN hx0 hk hn hd hq (fun a => by rw [gw_app]; exact kk a)
end GWR
