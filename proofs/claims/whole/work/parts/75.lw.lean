/-! THE LAW'S OWN FRAME: what holds from the constructors' end on, and its rows -/
def R_law : String := "MadeLandLaw"
def lw_P (b : Addr) (xs : List Int32) (args : Array Value) (s : State) : Prop := args = #[.ref b] ∧ s.IntsAt b xs ∧ xs.length ≤ 2048 ∧ (Jvm.Cond.and given_1 narrow_1).before args s = true
def lw_Q (_ : Array Value) (s : State) (o : Outcome) (t : State) : Prop := o = .returned (some (.int 1)) ∧ Framed s o t [] 600000 7302249
def lw_Z (below : List Frame) (a : Array Value) (s : State) : State → Prop := fun t => ∃ o, t.status = .running ∧ Ended t below o ∧ lw_Q a s o t
/-- the law's own end, with 1 on the stack, nothing written that was there before, its room as the claim has it -/
theorem lw_ret {p : Program} {l : Launch} {e : Env} {s : State} {m : MethodId} {below : List Frame} {meth : Method} {c : Code} {b : Nat} (hx : p.tables.exec = Jvm.exec) (hb : c.code = code) (hr : meth.sig.returnType = ret) (hlocks : meth.locks = false) {pc : Nat} {H : Heap} {ls : Array Slot} (hdg : decode code pc = .ok (.ireturn, 1)) : W p l e room_1 s m #[Value.ref b] below meth c H [] 600000 7302249 (lw_Z below #[Value.ref b] s) (F0 m pc ls [.int 1]) := by
  intro T hT X
  obtain ⟨fs, hret, hrun, hended, hW, hframe⟩ := X.leave (v := some (.int 1)) (hlocks := hlocks) (fun h => by rw [hr] at h; cases h)
  have hmeth' : T.vm.method? m = some meth := X.method'
  refine ⟨T.setFrames fs, ?_, .returned (some (.int 1)), hrun, hended, rfl, ⟨_, rfl⟩, hW, hframe⟩
  jvm_step X.here [X.here.top, hx, hb, hdg, hmeth', hr, ret, narrow_b1]
  (try refine ⟨rfl, ?_⟩); (try refine ⟨rfl, ?_⟩)
  first | (intro acts; rw [hret _ acts rfl rfl rfl]) | rw [hret _ _ rfl rfl rfl]
  exact Steps.refl _
/-- what stays as it is while the loop runs -/
def LC (X : sw_X) (aL aM b N : Nat) (xs : Nat → Int32) (p : Program) (s : State) (m : MethodId) (meth : Method) (c : Code) : Prop :=
  p.tables.exec = Jvm.exec ∧ c.code = code ∧ meth.sig.returnType = ret ∧ c.maxLocals = 4 ∧ s.vm.findClass RL = some m.cls ∧ (∀ w ∈ sw_W, w.before #[Value.ref b] s = true) ∧ va_X b N xs s s.heap ∧ b < s.heap.size ∧ meth.locks = false ∧ N ≤ 2048 ∧ sw_K X s ∧ sw_dis X ∧ (∀ i, i < 78 → s.heap.size ≤ sw_ad X i) ∧
  st_Z aL (fun q => s.heap.size ≤ q) "RULE_LEAST" rl_L s s.heap ∧ st_Z aM (fun q => s.heap.size ≤ q) "RULE_MOST" rl_M s s.heap
def LW (X : sw_X) (b : Nat) (p : Program) (e : Env) (s : State) (m : MethodId) (below : List Frame) (meth : Method) (c : Code) (pc : Nat) (L : List Value) (st : List Value) (σ : sw_Sg) : Prop :=
  ∀ (H : Heap) (ls : Array Slot), sw_P X σ H → va_S (fun q => s.heap.size ≤ q) s.heap H [] → sw_has ls 4 L → W p X.1 e room_1 s m #[Value.ref b] below meth c H [] 600000 7302249 (lw_Z below #[Value.ref b] s) (F0 m pc ls st)
theorem st_Z.kept {a : Nat} {A : Nat → Prop} {nm : String} {f : Nat → Int32} {U : State} {H H1 : Heap} (h : st_Z a A nm f U H) (hq : ∀ a : Nat, a < H.size → ¬ A a → H1[a]? = H[a]?) : st_Z a A nm f U H1 := ⟨h.1.kept hq, h.2.kept hq⟩
theorem st_Z.moved {a : Nat} {A : Nat → Prop} {nm : String} {f : Nat → Int32} {u U : State} {H : Heap} (hvm : u.vm.Alike U.vm) (h : st_Z a A nm f u H) : st_Z a A nm f U H := ⟨h.1.moved hvm, h.2.moved hvm⟩
theorem st_Z.narrow {a : Nat} {A B : Nat → Prop} {nm : String} {f : Nat → Int32} {U : State} {H : Heap} (h : st_Z a A nm f U H) (hAB : ∀ q, B q → A q) : st_Z a B nm f U H := ⟨h.1.narrow hAB, h.2.narrow hAB⟩
theorem ra_E_call {X : sw_X} {aL aM : Nat} (U : State) (g : JFrame) (mk : MethodId) (a : Array Value) (h : ra_E X aL aM U) : ra_E X aL aM (U.calling g mk a) :=
  ⟨h.1.moved (U := U.calling g mk a) (Vm.Alike.refl U.vm), h.2.moved (U := U.calling g mk a) (Vm.Alike.refl U.vm)⟩
theorem lw_gt {N i : Nat} (hN : N ≤ 2048) (hi : i ≤ 3000) (h : ¬ nI N - 4 < nI i) : i + 4 ≤ N := by
  rcases Nat.lt_or_ge N 4 with z | z
  · exfalso
    refine h (i_lt.mpr ?_)
    have e : (nI N - 4).toInt < 0 := by
      rcases (show N = 0 ∨ N = 1 ∨ N = 2 ∨ N = 3 by omega) with rfl | rfl | rfl | rfl <;> decide
    rw [nI_toInt (by omega)]
    omega
  · have e : nI N - 4 = nI (N - 4) := pk_sub (a := N) (b := 4) (by omega)
    rw [e] at h
    have := (nI_leI (by omega) (by omega)).mp (Int32.not_lt.mp h)
    omega
section LWR
variable {X : sw_X} {aL aM b N : Nat} {xs : Nat → Int32} {p : Program} {e : Env} {s : State} {m : MethodId} {below : List Frame} {meth : Method} {c : Code} {pc q : Nat} {L st rest As : List Value} {σ : sw_Sg} {x y : Int32} {d' : Nat} {mx : sw_Me} {E : State → Prop} {R' : Int32 → sw_Sg → Prop}
theorem LC.le (C : LC X aL aM b N xs p s m meth c) : N ≤ 2048 := C.2.2.2.2.2.2.2.2.2.1
theorem LC.stat (C : LC X aL aM b N xs p s m meth c) : ∀ H : Heap, va_S (fun q => s.heap.size ≤ q) s.heap H [] → ∀ U : State, U.heap = H → s.WarmedH U.vm → ra_E X aL aM U := by
  obtain ⟨hx, hb, hr, hml, hown, hts, hX, hbl, hlk, hN, hK, hdis, had, hL, hM⟩ := C
  intro H hS U hU hW
  have hA : ∀ q, sw_A X U.heap.size q → s.heap.size ≤ q := by
    intro q hq
    rcases hq with ⟨i, hi, rfl⟩ | hq
    · exact had i hi
    · rw [hU] at hq
      exact Nat.le_trans hS.1 hq
  have hk : ∀ a : Nat, a < s.heap.size → ¬ s.heap.size ≤ a → U.heap[a]? = s.heap[a]? := fun a h1 h2 => by rw [hU]; exact hS.2.1 a h1 h2
  exact ⟨((hL.kept hk).moved hW.alike).narrow hA, ((hM.kept hk).moved hW.alike).narrow hA⟩
theorem LW.iconst (C : LC X aL aM b N xs p s m meth c) {i : Int} {v : Int32} (hd : decode code pc = .ok (.iconst i, 1)) (hv : Int32.ofInt i = v) (hq : pc + 1 = q) (kk : LW X b p e s m below meth c q L (.int v :: st) σ) : LW X b p e s m below meth c pc L st σ := by
  subst hq
  intro H ls hP hS hl
  exact lv_iconst C.1 C.2.1 hd hv (kk H ls hP hS hl)
theorem LW.bipush (C : LC X aL aM b N xs p s m meth c) {i : Int} {v : Int32} (hd : decode code pc = .ok (.bipush i, 2)) (hv : (Int8.ofInt i).toInt32 = v) (hq : pc + 2 = q) (kk : LW X b p e s m below meth c q L (.int v :: st) σ) : LW X b p e s m below meth c pc L st σ := by
  subst hq
  intro H ls hP hS hl
  exact lv_bipush C.1 C.2.1 hd hv (kk H ls hP hS hl)
theorem LW.iload_n (C : LC X aL aM b N xs p s m meth c) {j : Fin 4} {i : Nat} (hd : decode code pc = .ok (.iload_n j, 1)) (hi : (j : Nat) = i) (hL : L[i]? = some (.int x)) (hq : pc + 1 = q) (kk : LW X b p e s m below meth c q L (.int x :: st) σ) : LW X b p e s m below meth c pc L st σ := by
  subst hq
  intro H ls hP hS hl
  exact lv_iload_n C.1 C.2.1 hd hi (hl.get hL (fun h => by cases h)) (kk H ls hP hS hl)
theorem LW.aload_n (C : LC X aL aM b N xs p s m meth c) {j : Fin 4} {i a : Nat} (hd : decode code pc = .ok (.aload_n j, 1)) (hi : (j : Nat) = i) (hL : L[i]? = some (.ref a)) (hq : pc + 1 = q) (kk : LW X b p e s m below meth c q L (.ref a :: st) σ) : LW X b p e s m below meth c pc L st σ := by
  subst hq
  intro H ls hP hS hl
  exact lv_aload_n C.1 C.2.1 hd hi (hl.get hL (fun h => by cases h)) (kk H ls hP hS hl)
theorem LW.iadd (C : LC X aL aM b N xs p s m meth c) (hd : decode code pc = .ok (.iadd, 1)) (hq : pc + 1 = q) (kk : LW X b p e s m below meth c q L (.int (x + y) :: rest) σ) : LW X b p e s m below meth c pc L (.int y :: .int x :: rest) σ := by
  subst hq
  intro H ls hP hS hl
  exact lv_iadd C.1 C.2.1 hd (kk H ls hP hS hl)
theorem LW.isub (C : LC X aL aM b N xs p s m meth c) (hd : decode code pc = .ok (.isub, 1)) (hq : pc + 1 = q) (kk : LW X b p e s m below meth c q L (.int (x - y) :: rest) σ) : LW X b p e s m below meth c pc L (.int y :: .int x :: rest) σ := by
  subst hq
  intro H ls hP hS hl
  exact lv_isub C.1 C.2.1 hd (kk H ls hP hS hl)
theorem LW.iand (C : LC X aL aM b N xs p s m meth c) (hd : decode code pc = .ok (.iand, 1)) (hq : pc + 1 = q) (kk : LW X b p e s m below meth c q L (.int (x &&& y) :: rest) σ) : LW X b p e s m below meth c pc L (.int y :: .int x :: rest) σ := by
  subst hq
  intro H ls hP hS hl
  exact lv_iand C.1 C.2.1 hd (kk H ls hP hS hl)
theorem LW.goto (C : LC X aL aM b N xs p s m meth c) {off : Int} (hd : decode code pc = .ok (.goto off, 3)) (hq : (pc : Int) + off = (q : Int)) (kk : LW X b p e s m below meth c q L st σ) : LW X b p e s m below meth c pc L st σ := by
  intro H ls hP hS hl
  exact lv_goto C.1 C.2.1 hd hq (kk H ls hP hS hl)
theorem LW.icmp_eq (C : LC X aL aM b N xs p s m meth c) {off : Int} {tgt : Nat} (hd : decode code pc = .ok (.if_icmp .eq off, 3)) (ht : (pc : Int) + off = (tgt : Int)) (hq : pc + 3 = q) (kt : x = y → LW X b p e s m below meth c tgt L rest σ) (kf : ¬ x = y → LW X b p e s m below meth c q L rest σ) : LW X b p e s m below meth c pc L (.int y :: .int x :: rest) σ := by
  subst hq
  intro H ls hP hS hl
  exact lv_icmp_eq C.1 C.2.1 hd ht (fun h => kt h H ls hP hS hl) (fun h => kf h H ls hP hS hl)
theorem LW.icmp_gt (C : LC X aL aM b N xs p s m meth c) {off : Int} {tgt : Nat} (hd : decode code pc = .ok (.if_icmp .gt off, 3)) (ht : (pc : Int) + off = (tgt : Int)) (hq : pc + 3 = q) (kt : y < x → LW X b p e s m below meth c tgt L rest σ) (kf : ¬ y < x → LW X b p e s m below meth c q L rest σ) : LW X b p e s m below meth c pc L (.int y :: .int x :: rest) σ := by
  subst hq
  intro H ls hP hS hl
  exact lv_icmp_gt C.1 C.2.1 hd ht (fun h => kt h H ls hP hS hl) (fun h => kf h H ls hP hS hl)
theorem LW.tableIn (C : LC X aL aM b N xs p s m meth c) {dflt lo hi : Int} {offs : Array Int} {len : Nat} {off : Int} (hd : decode code pc = .ok (.tableswitch dflt lo hi offs, len)) (h1 : ¬ x.toInt < lo) (h2 : ¬ hi < x.toInt) (ho : offs[(x.toInt - lo).toNat]? = some off) (hq : (pc : Int) + off = (q : Int)) (kk : LW X b p e s m below meth c q L rest σ) : LW X b p e s m below meth c pc L (.int x :: rest) σ := by
  intro H ls hP hS hl
  exact lv_tableIn C.1 C.2.1 hd h1 h2 ho hq (kk H ls hP hS hl)
theorem LW.tableOut (C : LC X aL aM b N xs p s m meth c) {dflt lo hi : Int} {offs : Array Int} {len : Nat} (hd : decode code pc = .ok (.tableswitch dflt lo hi offs, len)) (h : x.toInt < lo ∨ hi < x.toInt) (hq : (pc : Int) + dflt = (q : Int)) (kk : LW X b p e s m below meth c q L rest σ) : LW X b p e s m below meth c pc L (.int x :: rest) σ := by
  intro H ls hP hS hl
  exact lv_tableOut C.1 C.2.1 hd h hq (kk H ls hP hS hl)
theorem LW.iinc (C : LC X aL aM b N xs p s m meth c) {i : Nat} {j : Int} {v : Int32} (hd : decode code pc = .ok (.iinc i j, 3)) (hL : L[i]? = some (.int x)) (hv : x + Int32.ofInt j = v) (hn : i < 4) (hq : pc + 3 = q) (kk : LW X b p e s m below meth c q (L.set i (.int v)) st σ) : LW X b p e s m below meth c pc L st σ := by
  subst hq; subst hv
  intro H ls hP hS hl
  have hg := hl.get hL (fun h => by cases h)
  obtain ⟨ls', e', h'⟩ := hl.store (v := .int (x + Int32.ofInt j)) hn rfl
  intro T hT Xs
  obtain ⟨t, a, b⟩ := kk H ls' hP hS h' T hT Xs
  refine ⟨t, ?_, b⟩
  have hexec := C.1
  have hb := C.2.1
  jvm_step Xs.here [Xs.here.top, ↓top_set Xs.here.top, hexec, hb, hd, hg, e']
  exact a
theorem LW.slen (C : LC X aL aM b N xs p s m meth c) (hd : decode code pc = .ok (.arraylength, 1)) (hq : pc + 1 = q) (kk : LW X b p e s m below meth c q L (.int (nI N) :: rest) σ) : LW X b p e s m below meth c pc L (.ref b :: rest) σ := by
  subst hq
  intro H ls hP hS hl
  have kk := kk H ls hP hS hl
  obtain ⟨hx, hb, hr, hml, hown, hts, hX, hbl, hlk, hN, -⟩ := C
  exact va_slen hx hb hX hbl (Nat.not_le.mpr hbl) hS hd kk
theorem LW.sld (C : LC X aL aM b N xs p s m meth c) {j : Nat} (hx0 : x = nI j) (hj : j < N) (hd : decode code pc = .ok (.iaload, 1)) (hq : pc + 1 = q) (kk : LW X b p e s m below meth c q L (.int (xs j) :: rest) σ) : LW X b p e s m below meth c pc L (.int x :: .ref b :: rest) σ := by
  subst hq
  subst hx0
  intro H ls hP hS hl
  have kk := kk H ls hP hS hl
  obtain ⟨hx, hb, hr, hml, hown, hts, hX, hbl, hlk, hN, -⟩ := C
  refine va_sld hx hb hX hbl (Nat.not_le.mpr hbl) hS (vp_in_nI hj (by omega)) hd ?_
  rw [nI_clamp (by omega)]
  exact kk
theorem LW.arg (C : LC X aL aM b N xs p s m meth c) {i j : Nat} {jI : Int} {T : List Value} (hj : i + j < N) (d0 : decode code pc = .ok (.aload_n 0, 1)) (d1 : decode code (pc + 1) = .ok (.iload_n 3, 1)) (d2 : decode code (pc + 2) = .ok (.iconst jI, 1)) (hji : Int32.ofInt jI = nI j) (d3 : decode code (pc + 3) = .ok (.iadd, 1)) (d4 : decode code (pc + 4) = .ok (.iaload, 1)) (hq : pc + 5 = q) (kk : LW X b p e s m below meth c q (.ref b :: T) (.int (xs (i + j)) :: st) σ) (hT : (.ref b :: T : List Value)[3]? = some (.int (nI i)) := by rfl) : LW X b p e s m below meth c pc (.ref b :: T) st σ := by
  refine LW.aload_n C (i := 0) d0 rfl rfl rfl ?_
  refine LW.iload_n C (i := 3) d1 rfl hT rfl ?_
  refine LW.iconst C d2 hji rfl ?_
  refine LW.iadd C d3 rfl ?_
  exact LW.sld C (j := i + j) (nI_add i j) hj d4 (by omega) kk
theorem LW.ret (C : LC X aL aM b N xs p s m meth c) (hd : decode code pc = .ok (.ireturn, 1)) : LW X b p e s m below meth c pc L [.int 1] σ := by
  intro H ls hP hS hl
  obtain ⟨hx, hb, hr, hml, hown, hts, hX, hbl, hlk, -⟩ := C
  exact lw_ret hx hb hr hlk hd
theorem LW.call (C : LC X aL aM b N xs p s m meth c) {idx n i ci : Nat} {fk : List (Option Nat)} (hM : sw_ME X d' E mx (.ref (sw_ad X i) :: As) σ (sw_Ri R')) (hEb : ∀ (U : State) (g : JFrame) (mk : MethodId) (a : Array Value), E U → E (U.calling g mk a)) (hE : ∀ H : Heap, va_S (fun q => s.heap.size ≤ q) s.heap H [] → ∀ U : State, U.heap = H → s.WarmedH U.vm → E U) (hC : sw_CV RL idx n mx) (hlt : d' ≤ 6) (hsh : sw_sh i = .inr (ci, fk)) (hcl : (vwCl[ci]?).map (fun q => q.1) = some mx.1.cls) (hn : As.length = n) (hst : st = As.reverse ++ .ref (sw_ad X i) :: rest) (hrm : (rest.map fun v => v.category).sum ≤ 8) (hd : decode code pc = .ok (.invokevirtual idx, 3)) (hq : pc + 3 = q) (kk : ∀ v u, R' v u → LW X b p e s m below meth c q L (.int v :: rest) u) : LW X b p e s m below meth c pc L st σ := by
  subst hq
  intro H ls hP hS hl
  obtain ⟨hx, hb, hr', hml, hown, hts, hX, hbl, hlk, hN, hK, hdis, had, -⟩ := C
  obtain ⟨c1, c2, c3, c4⟩ := hC
  have hi := sw_sh_lt hsh
  have he := sw_ws_get (X := X) (σ := σ) hi
  rw [sw_cellO hsh] at he
  obtain ⟨q0, hq0, hq1⟩ := Option.map_eq_some_iff.mp hcl
  have hrec := va_recv hK.1 hP hq0 he
  rw [hq1] at hrec
  have hA : ∀ q, sw_A X H.size q → s.heap.size ≤ q := by
    intro q hq
    rcases hq with ⟨i, hi, rfl⟩ | hq
    · exact had i hi
    · exact Nat.le_trans hS.1 hq
  have cb : CallB room_1 s #[Value.ref b] RL idx mx.1 mx.2.1 mx.2.2.1 mx.2.2.2 (sw_wm mx) (sw_rm d') 0 0 n := by
    obtain ⟨h1, h2, h3, h4, h5⟩ := c1
    refine ⟨rfl, rfl, ?_, ?_, sw_wm_ok hts h2, List.mem_cons_self, hts _ h2, hts _ h3, h4, fun sig h => ?_, hts _ c2⟩
    · show d' + 1 ≤ 9
      omega
    · show 8 + (mx.2.2.1 + 11) + 38 * d' ≤ 348
      omega
    · rw [h] at h5
      exact (Option.some.inj h5).symm
  have hr := va_runV (l := X.1) (e := e) (R := room_1) (below := below) (meth := meth) (locs := []) (cells := 600000) (slots := 7302249) (g := F0 m pc ls st) (As := As) (rest := rest) (Ts := sw_W) ⟨hx, hb, hml, hown, hts⟩ (hM H.size) ⟨cb, hts _ c3, hts _ c4⟩ ⟨sw_Pc_blind hEb, hrec, fun U hU hW => ⟨rfl, by rw [hU], by rw [hU]; exact hP, hK.warm hW, hdis, hE H hS U hU hW⟩⟩ rfl hn hl.1 hst (lv_room hrm) hd ⟨Nat.le_refl _, Nat.le_refl _⟩
  intro T hT Xs
  obtain ⟨v, st₀, t, T', L1, h0, X', hL, e1, e2, ⟨⟨r, σ', hv, ⟨v', hr', hR⟩, hP'⟩, hz, hk⟩, hst2⟩ := hr T hT Xs
  cases hv
  subst hr'
  rw [h0] at hz hk
  have hS' : va_S (fun q => s.heap.size ≤ q) s.heap T'.heap [] := by
    refine ⟨Nat.le_trans hS.1 (by rw [e1]; exact hz), fun q h1 h2 => ?_, fun q hq => by cases hq⟩
    rw [e1, hk q (Nat.lt_of_lt_of_le h1 hS.1) (fun z => h2 (hA q z))]
    exact hS.2.1 q h1 h2
  have kk' := va_forget (locs := [] ++ L1) (fun q hq => by
    rcases List.mem_append.mp hq with h | h
    · cases h
    · exact hA _ (hL q h)) (kk v' σ' hR T'.heap ls (by rw [e1]; exact hP') hS' hl)
  obtain ⟨t2, a1, b1⟩ := kk' T' rfl X'
  exact ⟨t2, hst2 t2 a1, b1⟩
end LWR
