/-! contracts of the reference: 41.yinv -/
theorem yi_g {N : fl_M} {c j : Nat} {v : Int32} (h1 : c ≠ 30) (h2 : c ≠ 31) (h : YI N) : YI (fl_i N c j v) := fun t ht => by
  have e1 : (fl_i N c j v).1 30 = N.1 30 := fl_i_ne (Ne.symm h1)
  have e2 : (fl_i N c j v).1 31 = N.1 31 := fl_i_ne (Ne.symm h2)
  rw [e1, e2]
  exact h t ht
theorem yi_n {N : fl_M} {j : Nat} {v : Int32} (hv : vp_in v 4) (h : YI N) : YI (fl_i N 30 j v) := fun t ht => ⟨(h t ht).1, (h t ht).2.1, by
  show vp_in (upd (N.1 30) j v t) 4
  unfold upd
  split
  · exact hv
  · exact (h t ht).2.2⟩
theorem yi_l {N : fl_M} {j : Nat} {v : Int32} (hv : nn v) (h16 : v.toNatClampNeg ≤ 16) (h : YI N) : YI (fl_i N 31 j v) := fun t ht => by
  have e : (fl_i N 31 j v).1 31 t = upd (N.1 31) j v t := rfl
  refine ⟨?_, ?_, (h t ht).2.2⟩
  · rw [e]
    unfold upd
    split
    · exact hv
    · exact (h t ht).1
  · rw [e]
    unfold upd
    split
    · exact h16
    · exact (h t ht).2.1
theorem w_in4 {x : Int32} (h0 : ¬ x < 0) (h : ¬ 3 < x) : vp_in x 4 := by
  obtain ⟨j, hj, rfl⟩ := nI_of h0
  refine vp_in_nI ?_ (by decide)
  rcases Nat.lt_or_ge j 4 with h1 | h1
  · exact h1
  · exact absurd (nI_lt (a := 3) (by omega) hj) h
theorem p_le16 {x : Int32} (h0 : ¬ x < 0) (h : ¬ 16 < x) : x.toNatClampNeg ≤ 16 := by
  obtain ⟨j, hj, rfl⟩ := nI_of h0
  rw [nI_clamp hj]
  rcases Nat.lt_or_ge j 17 with h1 | h1
  · omega
  · exact absurd (nI_lt (a := 16) (by omega) hj) h
/-- what the contracts of craftPdu, craftFrame and tick take as given of YI -/
theorem yi_f : ∀ (N : fl_M) (c j : Nat) (v : Int32), c ≠ 27 → c ≠ 30 → c ≠ 31 → YI N → YI (fl_i N c j v) := fun _ _ _ _ _ h1 h2 h => yi_g h1 h2 h
theorem yi_t : ∀ (N : fl_M) (t k p w : Int32), vp_in t 16 → ¬ p < 0 → YI N → YI (g_MD_takes N t k p w).2 := by
  intro N t k p w ht hp h
  unfold g_MD_takes
  by_cases k1 : k = 1
  · rw [if_pos k1]
    by_cases a : 16 < p
    · rw [if_pos a]; exact h
    · rw [if_neg a]
      by_cases b : w < 0
      · rw [if_pos b]; exact h
      · rw [if_neg b]
        by_cases c : 3 < w
        · rw [if_pos c]; exact h
        · rw [if_neg c]
          split
          · exact yi_g (by decide) (by decide) (yi_n (w_in4 b c) (yi_g (by decide) (by decide) (yi_g (by decide) (by decide) h)))
          · exact h
  · rw [if_neg k1]
    by_cases k3 : k = 3
    · rw [if_pos k3]
      by_cases a : 16 < p
      · rw [if_pos a]; exact h
      · rw [if_neg a]
        split
        · exact yi_g (by decide) (by decide) (yi_g (by decide) (by decide) (yi_l (nn_of hp) (p_le16 hp a) (yi_g (by decide) (by decide) h)))
        · exact h
    · rw [if_neg k3]
      by_cases k2 : k = 2
      · rw [if_pos k2]
        split
        · exact h
        · split
          · exact yi_g (by decide) (by decide) (yi_g (by decide) (by decide) (yi_g (by decide) (by decide) h))
          · exact h
      · rw [if_neg k2]
        by_cases a : 16 < p
        · rw [if_pos a]; exact h
        · rw [if_neg a]
          split
          · exact h
          · split
            · exact h
            · split
              · exact yi_g (by decide) (by decide) (yi_g (by decide) (by decide) (yi_l (nn_of hp) (p_le16 hp a) (yi_g (by decide) (by decide) h)))
              · exact h
