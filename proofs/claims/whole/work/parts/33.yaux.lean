/-! contracts of the reference: 33.yaux -/
theorem cnt_in {c x : Int32} (hbg : nn c) (hb16 : c.toNatClampNeg ≤ 16) (h1 : ¬ x < 0) (h2 : ¬ c ≤ x) : vp_in x 16 := by
  obtain ⟨j, hj, rfl⟩ := nI_of h1
  rw [show c = nI c.toNatClampNeg from hbg] at h2
  rcases Nat.lt_or_ge j c.toNatClampNeg with h3 | h3
  · exact vp_in_nI (by omega) (by decide)
  · exact absurd (nI_le h3 hj) h2
theorem cnt_ne {c : Int32} (hbg : nn c) (hb16 : c.toNatClampNeg ≤ 16) (h : ¬ c = 16) : vp_in c 16 := by
  have e : c = nI c.toNatClampNeg := hbg
  rw [e]
  refine vp_in_nI ?_ (by decide)
  rcases Nat.lt_or_ge c.toNatClampNeg 16 with h1 | h1
  · exact h1
  · exact absurd (e.trans (congrArg nI (show c.toNatClampNeg = 16 by omega))) h
theorem st_in {n y : Int32} (hn : n ≤ 16) (h0 : ¬ y < (-1)) (h1 : ¬ y = (-1)) (h : ¬ n ≤ y) : vp_in y 16 := by
  have h2 : ¬ y < 0 := fun q => by
    rw [Int32.lt_iff_toInt_lt] at h0 q
    have e1 : (-1 : Int32).toInt = -1 := by decide
    have e0 : (0 : Int32).toInt = 0 := by decide
    rw [e1] at h0
    rw [e0] at q
    exact h1 (Int32.toInt_inj.mp (by rw [e1]; omega))
  obtain ⟨j, hj, rfl⟩ := nI_of h2
  exact vp_in_nI ((nI_ltI hj (b := 16) (by decide)).mp (Int32.lt_of_lt_of_le (Int32.not_le.mp h) hn)) (by decide)
theorem cnt_in2 {c x : Int32} (hbg : nn c) (hb16 : c.toNatClampNeg ≤ 16) (h1 : ¬ x < 0) (h2 : x < c) : vp_in x 16 := cnt_in hbg hb16 h1 (Int32.not_le.mpr h2)
theorem st_in2 {n y : Int32} (hn : n ≤ 16) (h0 : (-1) ≤ y) (h1 : ¬ y = (-1)) (h : ¬ n ≤ y) : vp_in y 16 := st_in hn (Int32.not_lt.mpr h0) h1 h
theorem nn_out {x b : Int32} (h : g_MD_outside x b = 0) : nn x := by
  unfold g_MD_outside at h
  by_cases h1 : x < 0
  · rw [if_pos h1] at h; exact absurd h (by decide)
  · exact nn_of h1
