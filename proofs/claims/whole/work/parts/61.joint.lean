/-! BOTH at once: the same numbers on both sides -/
section JOINT
variable {σ τ u w : sw_Sg} {n a b c sea g br wn k : Nat}
def jI_ (n a b c sea g br wn k : Nat) (σ : sw_Sg) : Prop := cI_ n a b c sea g br wn k σ ∧ mI_ n a b c sea g br wn σ ∧ eq_ c σ
theorem fc_r (h : fc_ σ u) : fr_ (List.range 59) σ u := fun i hi => h i (by
  have : ¬ i < 59 := fun z => hi (List.mem_range.mpr z)
  omega)
theorem mI_.fc (z : mI_ n a b c sea g br wn σ) (h : fc_ σ u) : mI_ n a b c sea g br wn u := by
  have hf := fc_r h
  have h59 : u 59 = σ 59 := h 59 (by omega)
  have hs : fs_ [] σ u := fun j _ => by rw [h59]
  refine ⟨z.1.fr hf hs (by decide) (by decide), ?_⟩
  rw [h59]
  exact z.2.imp (fun y => y) (fun y => ⟨y.1, y.2.fr hf hs (by decide) (by decide)⟩)
theorem mL_.fc (z : mL_ n a b c sea g br wn σ) (h : fc_ σ u) : mL_ n a b c sea g br wn u := z.fr (fc_r h) (by decide)
theorem cI_.fm (z : cI_ n a b c sea g br wn k σ) (h : fm_ σ u) : cI_ n a b c sea g br wn k u := by
  unfold cI_ ck_ gr_chs cs_1 cs_2 cs_3 cs_4 ct_L ww_F lg_F tw_row nk_F nc_T nt_lab at z ⊢
  rw [h 0 (by decide), h 1 (by decide), h 3 (by decide), h 4 (by decide), h 5 (by decide), h 33 (by decide), h 34 (by decide), h 35 (by decide), h 36 (by decide), h 37 (by decide), h 38 (by decide), h 39 (by decide), h 40 (by decide), h 41 (by decide), h 42 (by decide), h 43 (by decide), h 44 (by decide), h 45 (by decide), h 48 (by decide), h 49 (by decide), h 50 (by decide), h 52 (by decide), h 53 (by decide), h 54 (by decide), h 55 (by decide), h 56 (by decide), h 57 (by decide)]
  exact z
/-- the class has answered, then the reference: the same numbers as before -/
theorem jI_q (h0 : eq_ c σ) (a1 : fc_ σ u) (a2 : ce_ σ u) (a3 : cI_ n a b c sea g br wn k u) (b1 : fm_ u w) (b2 : me_ u w) (b3 : mI_ n a b c sea g br wn w) : jI_ n a b c sea g br wn k w ∧ eq2_ c w w := by
  have e : eq_ c w := by
    obtain ⟨x1, x2, x3, x4, x5⟩ := a2
    obtain ⟨y1, y2, y3, y4, y5⟩ := b2
    unfold eq_
    rw [b1 1 (by decide), b1 33 (by decide), b1 34 (by decide), b1 35 (by decide), b1 36 (by decide), x1, x2, x3, x4, x5, y1, y2, y3, y4, y5, a1 59 (by decide), a1 60 (by decide), a1 61 (by decide), a1 62 (by decide), a1 63 (by decide)]
    exact h0
  exact ⟨⟨a3.fm b1, b3, e⟩, e⟩
end JOINT
