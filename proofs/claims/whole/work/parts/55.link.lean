/-! THE LINK: what is laid is the same on both sides -/
section LINK
variable {n sea : Nat} {h h' T lv od T' lv' od' : Nat → Nat} {D D' : Nat → Option Nat} {st : Int32} {τ u : sw_Sg}
theorem wt_ok_congr {K : Nat} (hh : ∀ p, p < n * n → h p = h' p) (a : wt_ok n h sea K T lv od D) : wt_ok n h' sea K T lv od D := by
  have ho : ∀ q, q < n * n → wt_out n h' sea q = wt_out n h sea q := fun q hq => by unfold wt_out; rw [hh q hq]
  refine ⟨a.1, fun j hj => ?_⟩
  have tj := (a.1 j hj).1
  rcases a.2 j hj with ⟨s1, s2, s3, s4⟩ | ⟨s1, r, s2, s3, s4, s5⟩
  · exact Or.inl ⟨by rw [ho _ tj]; exact s1, fun q hq hw => s2 q hq (by rw [← ho q hq]; exact hw), by rw [s3, hh _ tj], s4⟩
  · refine Or.inr ⟨fun q hq hw => s1 q hq (by rw [← ho q hq]; exact hw), r, s2, by rw [s3, hh _ tj], s4, fun p' r' hp' hn hl => ?_⟩
    have := s5 p' r' hp' hn hl
    rw [← hh _ tj, ← hh _ hp']
    exact this
/-- levels, ways of the water, orders, flows and kinds are the same -/
theorem ln_water {iL iD iF iO iK jL jD jF jO jK : Nat} (hh : ∀ p, p < n * n → h p = h' p) (a : ww_F n h sea st T lv od D iL iD iF iO iK τ) (b : ww_F n h' sea st T' lv' od' D' jL jD jF jO jK u) :
    ∀ p, p < n * n → (τ iL p = u jL p ∧ τ iD p = u jD p ∧ τ iO p = u jO p ∧ τ iF p = u jF p ∧ τ iK p = u jK p) ∧ D p = D' p := by
  have a1 := wt_ok_congr hh a.1
  have one := wt_one a1 b.1
  have full : ∀ p, p < n * n → ∃ j, j < n * n ∧ T j = p := fun p hp => by
    obtain ⟨i, i1, i2⟩ := wt_pig (n * n) T (fun i hi => (a.1.1 i hi).1) (fun i j hi hj e => wt_inj a.1.1 hi hj e) p hp
    exact ⟨i, i1, i2⟩
  intro p hp
  obtain ⟨j, j1, j2⟩ := full p hp
  obtain ⟨o1, o2, o3⟩ := one j j1
  rw [j2] at o2 o3
  obtain ⟨x1, x2, x3, x4, x5, x6⟩ := a.2 p hp
  obtain ⟨y1, y2, y3, y4, y5, y6⟩ := b.2 p hp
  have eo : od p = od' p := by
    have e1 := (a.1.1 j j1).2
    have e2 := (b.1.1 j j1).2
    rw [← o1, j2] at e2
    rw [j2] at e1
    omega
  have ef : wf_ n T D p = wf_ n T' D' p := by
    unfold wf_
    refine wf_congr (N := n * n) (n * n) (fun j hj => ⟨(a.1.1 j hj).1, (one j hj).1, (one j hj).2.2, fun r hr => (wt_D a.1 ⟨j, hj, rfl⟩ hr).2.1⟩) _ _ (fun _ _ => rfl) p hp
  refine ⟨⟨by rw [x1, y1, o2], by rw [x3, y3, o3], by rw [x4, y4, eo], by rw [x5, y5, ef], by rw [x6, y6, hh p hp, o2, ef]⟩, o3⟩
/-- the towns are the same -/
theorem ln_towns {g wn : Nat} {iH iK iF jH jK jF : Nat} (e : ∀ p, p < n * n → τ iH p = u jH p ∧ τ iK p = u jK p ∧ τ iF p = u jF p) : (∀ p, p < n * n → tw_worth n (τ iH) (τ iK) (τ iF) p = tw_worth n (u jH) (u jK) (u jF) p) ∧ ct_L n g wn iH iK iF τ = ct_L n g wn jH jK jF u := by
  have w : ∀ p, p < n * n → tw_worth n (τ iH) (τ iK) (τ iF) p = tw_worth n (u jH) (u jK) (u jF) p := fun p hp => tw_worth_congr hp e
  exact ⟨w, tw_run_congr w wn []⟩
end LINK
