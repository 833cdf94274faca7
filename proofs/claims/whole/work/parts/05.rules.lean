/-! the rows of calls and answers in the forms that the walks use -/
/-- a method that answers the int f and leaves the ints u0 -/
abbrev sw_F (X : sw_X) (d : Nat) (me : sw_Me) (args : List Value) (σ : sw_Sg) (f : Int32) (u0 : sw_Sg) : Prop := sw_Mi X d me args σ (fun r u => r = f ∧ u = u0)
/-- a method that answers nothing and leaves the ints u0 -/
abbrev sw_G (X : sw_X) (d : Nat) (me : sw_Me) (args : List Value) (σ : sw_Sg) (u0 : sw_Sg) : Prop := sw_Mv X d me args σ (fun u => u = u0)
/-- a method's contract out of a walk of its body, for any method whose own code runs -/
theorem sw_metF {l : Launch} {y : MethodName} {ws ws' : List Cond} {rm : Room} {Pc : Array Value → State → Prop} {Qc : Array Value → State → Outcome → State → Prop} {mc ms : Nat} {free : Addr → Prop} {cc : ByteArray} {maxL : Nat} {ret : Option FieldType}
    (hy : plainFor y = true) (hw : ws = Cond.code y cc maxL ret :: ws')
    (body : ∀ p e s m args below meth c s₁, BodyLoose p l y (headSpec ws rm) cc maxL ret e s m args below meth c s₁ → c.maxLocals = maxL → Pc args s →
      W p l e (headSpec ws rm).room s m args below meth c s.heap [] 0 0 (MQ below Qc args s mc ms free) (entryFrame m args maxL)) : Met l y ws rm Pc Qc mc ms free := by
  have hcode : ∀ (args : Array Value) (s : State) (m : MethodId), (headSpec ws rm).pre.before args s = true → s.methodNamed? y = some m → ∃ meth c, s.vm.method? m = some meth ∧ meth.code = some c ∧ c.code = cc ∧ c.maxLocals = maxL ∧ meth.sig.returnType = ret ∧ meth.locks = false := by
    intro args s m h hn
    obtain ⟨meth, c, q1, q2, q3, q4, q5, q6, -, -⟩ := Cond.code_spec hn (atoms_spec (ws := ws) h _ (by rw [hw]; exact List.mem_cons_self))
    exact ⟨meth, c, q1, q2, q3, q4, q5, q6⟩
  refine MetFree.of_bodySF (code := cc) (maxLocals := maxL) (ret := ret) hy hcode ?_
  intro p e s m args below meth c s₁ B hml hP _
  have hheap : s₁.heap = s.heap := by rw [B.state]; rfl
  obtain ⟨t, st, o, hr, he, hq⟩ := body p e s m args below meth c s₁ B hml hP s₁ hheap (Stand.of_body B)
  exact ⟨t, o, st, hr, he, hq⟩
section SWK
variable {X : sw_X} {d d' : Nat} {me mc : sw_Me} {E : State → Prop} {R : Option Value → sw_Sg → Prop} {pc q : Nat} {L st rest As : List Value} {σ u0 : sw_Sg} {x f : Int32}
theorem SW.iretR {R' : Int32 → sw_Sg → Prop} {ty : FieldType} (hr : me.2.2.2 = some ty) (hn : narrow ty (.int x) = .int x) (hd : decode me.2.1 pc = .ok (.ireturn, 1)) (hR : R' x σ) : SW X d me E (sw_Ri R') pc L [.int x] σ := SW.iret hr hn hd ⟨x, rfl, hR⟩
theorem SW.vretR {R' : sw_Sg → Prop} (hr : me.2.2.2 = none) (hd : decode me.2.1 pc = .ok (.return_, 1)) (hR : R' σ) : SW X d me E (sw_Rv R') pc L [] σ := SW.vret hr hd ⟨rfl, hR⟩
theorem SW.cR {R' : Int32 → sw_Sg → Prop} {idx n i ci : Nat} {fk : List (Option Nat)} (hM : sw_Mi X d' mc (.ref (sw_ad X i) :: As) σ R') (hC : sw_CV me.1.cls idx n mc) (hlt : d' < d) (hsh : sw_sh i = .inr (ci, fk)) (hcl : (vwCl[ci]?).map (fun q => q.1) = some mc.1.cls) (hn : As.length = n) (hst : st = As.reverse ++ .ref (sw_ad X i) :: rest) (hrm : (rest.map fun v => v.category).sum ≤ 8) (hd : decode me.2.1 pc = .ok (.invokevirtual idx, 3)) (hq : pc + 3 = q) (kk : ∀ v u, R' v u → SW X d me E R q L (.int v :: rest) u) : SW X d me E R pc L st σ :=
  SW.callV hM hC hlt hsh hcl hn hst hrm hd hq (fun r u h => by obtain ⟨v, rfl, h⟩ := h; exact kk v u h)
theorem SW.cV {R' : sw_Sg → Prop} {idx n i ci : Nat} {fk : List (Option Nat)} (hM : sw_Mv X d' mc (.ref (sw_ad X i) :: As) σ R') (hC : sw_CV me.1.cls idx n mc) (hlt : d' < d) (hsh : sw_sh i = .inr (ci, fk)) (hcl : (vwCl[ci]?).map (fun q => q.1) = some mc.1.cls) (hn : As.length = n) (hst : st = As.reverse ++ .ref (sw_ad X i) :: rest) (hrm : (rest.map fun v => v.category).sum ≤ 8) (hd : decode me.2.1 pc = .ok (.invokevirtual idx, 3)) (hq : pc + 3 = q) (kk : ∀ u, R' u → SW X d me E R q L rest u) : SW X d me E R pc L st σ :=
  SW.callV hM hC hlt hsh hcl hn hst hrm hd hq (fun r u h => by obtain ⟨rfl, h⟩ := h; exact kk u h)
theorem SW.sR {R' : Int32 → sw_Sg → Prop} {idx n : Nat} (hM : sw_Mi X d' mc As σ R') (hC : sw_CS me.1.cls idx n mc) (hlt : d' < d) (hn : As.length = n) (hst : st = As.reverse ++ rest) (hrm : (rest.map fun v => v.category).sum ≤ 8) (hd : decode me.2.1 pc = .ok (.invokestatic idx, 3)) (hq : pc + 3 = q) (kk : ∀ v u, R' v u → SW X d me E R q L (.int v :: rest) u) : SW X d me E R pc L st σ :=
  SW.callS hM hC hlt hn hst hrm hd hq (fun r u h => by obtain ⟨v, rfl, h⟩ := h; exact kk v u h)
theorem SW.sV {R' : sw_Sg → Prop} {idx n : Nat} (hM : sw_Mv X d' mc As σ R') (hC : sw_CS me.1.cls idx n mc) (hlt : d' < d) (hn : As.length = n) (hst : st = As.reverse ++ rest) (hrm : (rest.map fun v => v.category).sum ≤ 8) (hd : decode me.2.1 pc = .ok (.invokestatic idx, 3)) (hq : pc + 3 = q) (kk : ∀ u, R' u → SW X d me E R q L rest u) : SW X d me E R pc L st σ :=
  SW.callS hM hC hlt hn hst hrm hd hq (fun r u h => by obtain ⟨rfl, h⟩ := h; exact kk u h)
theorem SW.snR {R' : Int32 → sw_Sg → Prop} {idx n : Nat} (hM : sw_Mi X d' mc As σ R') (hC : sw_CSN me.1.cls idx n mc) (hlt : d' < d) (hn : As.length = n) (hst : st = As.reverse ++ rest) (hrm : (rest.map fun v => v.category).sum ≤ 8) (hd : decode me.2.1 pc = .ok (.invokestatic idx, 3)) (hq : pc + 3 = q) (kk : ∀ v u, R' v u → SW X d me E R q L (.int v :: rest) u) : SW X d me E R pc L st σ :=
  SW.callSN hM hC hlt hn hst hrm hd hq (fun r u h => by obtain ⟨v, rfl, h⟩ := h; exact kk v u h)
theorem SW.cF {idx n i ci : Nat} {fk : List (Option Nat)} (hM : sw_F X d' mc (.ref (sw_ad X i) :: As) σ f u0) (hC : sw_CV me.1.cls idx n mc) (hlt : d' < d) (hsh : sw_sh i = .inr (ci, fk)) (hcl : (vwCl[ci]?).map (fun q => q.1) = some mc.1.cls) (hn : As.length = n) (hst : st = As.reverse ++ .ref (sw_ad X i) :: rest) (hrm : (rest.map fun v => v.category).sum ≤ 8) (hd : decode me.2.1 pc = .ok (.invokevirtual idx, 3)) (hq : pc + 3 = q) (kk : SW X d me E R q L (.int f :: rest) u0) : SW X d me E R pc L st σ :=
  SW.cR hM hC hlt hsh hcl hn hst hrm hd hq (fun v u h => by obtain ⟨rfl, rfl⟩ := h; exact kk)
theorem SW.cG {idx n i ci : Nat} {fk : List (Option Nat)} (hM : sw_G X d' mc (.ref (sw_ad X i) :: As) σ u0) (hC : sw_CV me.1.cls idx n mc) (hlt : d' < d) (hsh : sw_sh i = .inr (ci, fk)) (hcl : (vwCl[ci]?).map (fun q => q.1) = some mc.1.cls) (hn : As.length = n) (hst : st = As.reverse ++ .ref (sw_ad X i) :: rest) (hrm : (rest.map fun v => v.category).sum ≤ 8) (hd : decode me.2.1 pc = .ok (.invokevirtual idx, 3)) (hq : pc + 3 = q) (kk : SW X d me E R q L rest u0) : SW X d me E R pc L st σ :=
  SW.cV hM hC hlt hsh hcl hn hst hrm hd hq (fun u h => by subst h; exact kk)
theorem SW.sF {idx n : Nat} (hM : sw_F X d' mc As σ f u0) (hC : sw_CS me.1.cls idx n mc) (hlt : d' < d) (hn : As.length = n) (hst : st = As.reverse ++ rest) (hrm : (rest.map fun v => v.category).sum ≤ 8) (hd : decode me.2.1 pc = .ok (.invokestatic idx, 3)) (hq : pc + 3 = q) (kk : SW X d me E R q L (.int f :: rest) u0) : SW X d me E R pc L st σ :=
  SW.sR hM hC hlt hn hst hrm hd hq (fun v u h => by obtain ⟨rfl, rfl⟩ := h; exact kk)
theorem SW.sG {idx n : Nat} (hM : sw_G X d' mc As σ u0) (hC : sw_CS me.1.cls idx n mc) (hlt : d' < d) (hn : As.length = n) (hst : st = As.reverse ++ rest) (hrm : (rest.map fun v => v.category).sum ≤ 8) (hd : decode me.2.1 pc = .ok (.invokestatic idx, 3)) (hq : pc + 3 = q) (kk : SW X d me E R q L rest u0) : SW X d me E R pc L st σ :=
  SW.sV hM hC hlt hn hst hrm hd hq (fun u h => by subst h; exact kk)
theorem SW.snF {idx n : Nat} (hM : sw_F X d' mc As σ f u0) (hC : sw_CSN me.1.cls idx n mc) (hlt : d' < d) (hn : As.length = n) (hst : st = As.reverse ++ rest) (hrm : (rest.map fun v => v.category).sum ≤ 8) (hd : decode me.2.1 pc = .ok (.invokestatic idx, 3)) (hq : pc + 3 = q) (kk : SW X d me E R q L (.int f :: rest) u0) : SW X d me E R pc L st σ :=
  SW.snR hM hC hlt hn hst hrm hd hq (fun v u h => by obtain ⟨rfl, rfl⟩ := h; exact kk)
theorem sw_ME.ofF {args : List Value} {Lu : List Value} (hp : plainFor me.1 = true) (hL : args ++ List.replicate (me.2.2.1 - args.length) .null = Lu) (hlen : args.length ≤ me.2.2.1) (hcat : args.all (fun v => decide (v.category = 1)) = true) (kk : SW X d me E R 0 Lu [] σ) : sw_ME X d E me args σ R := by
  intro sz
  refine sw_metF (cc := me.2.1) (maxL := me.2.2.1) (ret := me.2.2.2) hp rfl ?_
  intro p e s m av below meth c s₁ B hml hv
  obtain ⟨rfl, hsz, hP, hK, hdis, hE⟩ := hv
  have hts : ∀ w ∈ sw_W, w.before args.toArray s = true := fun w hw => atoms_spec (ws := sw_wm me) B.pre w (List.mem_cons_of_mem _ hw)
  have hown : s.vm.findClass me.1.cls = some m.cls := findClass_of_methodNamed B.named
  subst hsz
  have hc1 : ∀ v ∈ args, v.category = 1 := fun v hv => by simpa using List.all_eq_true.mp hcat v hv
  have hsl : ∀ l : List Value, (∀ v ∈ l, v.category = 1) → lg_sl l = l.map (fun v => Slot.val v) ∧ ∀ (k i : Nat) (v : Value), l[i]? = some v → (k + i, v) ∈ lv_args k l := by
    intro l
    induction l with
    | nil => exact fun _ => ⟨rfl, fun k i v h => by simp at h⟩
    | cons a l ih =>
      intro h
      obtain ⟨i1, i2⟩ := ih (fun v hv => h v (List.mem_cons_of_mem _ hv))
      have ha : a.category = 1 := h a List.mem_cons_self
      refine ⟨?_, fun k i v hi => ?_⟩
      · rw [List.map_cons, ← i1]
        simp [lg_sl, List.flatMap_cons, ha]
      · simp only [lv_args, ha]
        cases i with
        | zero =>
          simp at hi
          subst hi
          exact List.mem_cons_self
        | succ i =>
          have := i2 (k + 1) i v (by simpa using hi)
          rw [show k + (i + 1) = k + 1 + i by omega]
          exact List.mem_cons_of_mem _ this
  obtain ⟨hs1, hs2⟩ := hsl args hc1
  have hlen' : (lg_sl args).length ≤ me.2.2.1 := by rw [hs1, List.length_map]; exact hlen
  have hl := lv_entry args (n := me.2.2.1) hlen'
  rw [lg_entry_eq]
  generalize (lg_sl args ++ List.replicate (me.2.2.1 - (lg_sl args).length) Slot.unset).toArray = ls at hl ⊢
  refine kk p e s m args.toArray below meth c s.heap [] ls ⟨B.exec, B.bytes, B.returns, hml, hown, hts, B.notSynchronized, hK, hdis, hE, hP, va_S.rf⟩ ⟨hl.1, hl.2.1, fun i v hi hv => ?_⟩
  rw [← hL, List.getElem?_append] at hi
  split at hi
  · refine ⟨?_, hc1 v (List.mem_of_getElem? hi)⟩
    have := hl.2.2 _ (hs2 0 i v hi)
    simpa using this
  · rw [List.getElem?_replicate] at hi
    split at hi
    · cases hi
      exact absurd rfl hv
    · cases hi
/-- the same ints, written otherwise -/
theorem SW.eq {L' st' : List Value} {σ' : sw_Sg} (hL : L = L') (hs : st = st') (hσ : σ = σ') (kk : SW X d me E R pc L' st' σ') : SW X d me E R pc L st σ := by subst hL; subst hs; subst hσ; exact kk
end SWK
