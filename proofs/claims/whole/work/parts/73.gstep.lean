/-! the ground's frames: step 5, and what holds of them -/
def fcF (M : fl_M) : fl_M := if ((fl_i M 0 36 ((M.1 0 36) - 1)).1 0 36) ≤ 0 then (if ((fl_i M 0 36 ((M.1 0 36) - 1)).1 0 28) = 0 then (if ((fl_i M 0 36 ((M.1 0 36) - 1)).1 0 34) = 4 then ((g_MD_alert (fl_i M 0 36 ((M.1 0 36) - 1)) 2)) else (if ((fl_i (fl_i M 0 36 ((M.1 0 36) - 1)) 0 36 ((fl_i M 0 36 ((M.1 0 36) - 1)).1 0 1)).1 0 28) = 0 then ((g_MD_markAll (fl_i (fl_i (fl_i M 0 36 ((M.1 0 36) - 1)) 0 36 ((fl_i M 0 36 ((M.1 0 36) - 1)).1 0 1)) 0 34 (((fl_i (fl_i M 0 36 ((M.1 0 36) - 1)) 0 36 ((fl_i M 0 36 ((M.1 0 36) - 1)).1 0 1)).1 0 34) + 1)))) else ((fl_i (fl_i (fl_i M 0 36 ((M.1 0 36) - 1)) 0 36 ((fl_i M 0 36 ((M.1 0 36) - 1)).1 0 1)) 0 33 1)))) else (if ((fl_i (fl_i M 0 36 ((M.1 0 36) - 1)) 0 36 ((fl_i M 0 36 ((M.1 0 36) - 1)).1 0 1)).1 0 28) = 0 then ((g_MD_markAll (fl_i (fl_i (fl_i M 0 36 ((M.1 0 36) - 1)) 0 36 ((fl_i M 0 36 ((M.1 0 36) - 1)).1 0 1)) 0 34 (((fl_i (fl_i M 0 36 ((M.1 0 36) - 1)) 0 36 ((fl_i M 0 36 ((M.1 0 36) - 1)).1 0 1)).1 0 34) + 1)))) else ((fl_i (fl_i (fl_i M 0 36 ((M.1 0 36) - 1)) 0 36 ((fl_i M 0 36 ((M.1 0 36) - 1)).1 0 1)) 0 33 1)))) else ((fl_i M 0 36 ((M.1 0 36) - 1)))
set_option maxHeartbeats 4000000 in
set_option maxRecDepth 100000 in
theorem fc_eq (M : fl_M) : g_MD_frameClocks M = if (M.1 0 28) = 0 then (if (M.1 0 30) = 0 then (M) else fcF M) else fcF M := rfl
set_option maxHeartbeats 4000000 in
set_option maxRecDepth 100000 in
theorem s_fc (N : fl_M) (W : Nat → Nat → Int32) : V (g_MD_frameClocks N) W = pG (V N W) (g_GF_stepClock (V N W).gv (V N W).gz (V N W).gi) := by
  have e3 : (V N W).gv 3 = N.1 0 28 := rfl
  have e5 : (V N W).gv 5 = N.1 0 30 := rfl
  have e6 : (V N W).gv 6 = N.1 0 34 := rfl
  have e7 : (V N W).gv 7 = N.1 0 36 := rfl
  have e0 : (V N W).gv 0 = N.1 0 1 := rfl
  have n36 : ∀ {M : fl_M} {x : Int32} {j : Nat}, j ≠ 36 → (fl_i M 0 36 x).1 0 j = M.1 0 j := fun h => fi_0 h
  have hm : ∀ (A : fl_M) (f : Nat → Int32), V A W = pG (V N W) (f, (V N W).gz, (V N W).gi) → V (g_MD_markAll A) W = pG (V N W) (g_GF_markAll f (V N W).gz (V N W).gi) := by
    intro A f h
    rw [s_mark, h]
    unfold pG
    dsimp only [m_tm, m_cn, m_fs, m_wf, m_wg, m_wb, m_gv, m_gz, m_gi, m_cv, m_st, m_sw, m_tv, m_tw, m_rv, m_rw, p_tm, p_cn, p_fs, p_wf, p_wg, p_wb, p_gv, p_gz, p_gi, p_cv, p_st, p_sw, p_tv, p_tw, p_rv, p_rw]
    rw [show (g_GF_markAll f (V N W).gz (V N W).gi).1 = f from (mark_f _ _ _).1, show (g_GF_markAll f (V N W).gz (V N W).gi).2.2 = (V N W).gi from (mark_f _ _ _).2]
  rw [fc_eq]
  unfold g_GF_stepClock fcF
  rw [e3, e5, e6, e7, e0]
  simp only [fi_s, n36 (show 28 ≠ 36 by decide), n36 (show 34 ≠ 36 by decide), n36 (show 1 ≠ 36 by decide)]
  by_cases h0 : N.1 0 28 = 0
  · simp only [if_pos h0]
    by_cases h1 : N.1 0 30 = 0
    · simp only [if_pos h1]; exact (pG_id _).symm
    · simp only [if_neg h1]
      by_cases h2 : N.1 0 36 - 1 ≤ 0
      · simp only [if_pos h2]
        by_cases h3 : N.1 0 34 = 4
        · simp only [if_pos h3]
          rw [s_alert]
          (simp only [V_0_36, mm_gv]) <;> dsimp only [m_tm, m_cn, m_fs, m_wf, m_wg, m_wb, m_gv, m_gz, m_gi, m_cv, m_st, m_sw, m_tv, m_tw, m_rv, m_rw, p_tm, p_cn, p_fs, p_wf, p_wg, p_wb, p_gv, p_gz, p_gi, p_cv, p_st, p_sw, p_tv, p_tw, p_rv, p_rw]
          unfold pG g_GF_alert
          dsimp only [m_tm, m_cn, m_fs, m_wf, m_wg, m_wb, m_gv, m_gz, m_gi, m_cv, m_st, m_sw, m_tv, m_tw, m_rv, m_rw, p_tm, p_cn, p_fs, p_wf, p_wg, p_wb, p_gv, p_gz, p_gi, p_cv, p_st, p_sw, p_tv, p_tw, p_rv, p_rw]
          congr 1
          exact (funext fun i => match i with | 0 => rfl | 1 => rfl | 2 => rfl | 3 => rfl | 4 => rfl | 5 => rfl | 6 => rfl | 7 => rfl | 8 => rfl | 9 => rfl | 10 => rfl | n + 11 => rfl)
        · simp only [if_neg h3]
          refine hm _ _ ?_
          (simp only [V_0_36, V_0_34, mm_gv]) <;> dsimp only [m_tm, m_cn, m_fs, m_wf, m_wg, m_wb, m_gv, m_gz, m_gi, m_cv, m_st, m_sw, m_tv, m_tw, m_rv, m_rw, p_tm, p_cn, p_fs, p_wf, p_wg, p_wb, p_gv, p_gz, p_gi, p_cv, p_st, p_sw, p_tv, p_tw, p_rv, p_rw]
          rfl
      · simp only [if_neg h2]
        (simp only [V_0_36, mm_gv]) <;> dsimp only [m_tm, m_cn, m_fs, m_wf, m_wg, m_wb, m_gv, m_gz, m_gi, m_cv, m_st, m_sw, m_tv, m_tw, m_rv, m_rw, p_tm, p_cn, p_fs, p_wf, p_wg, p_wb, p_gv, p_gz, p_gi, p_cv, p_st, p_sw, p_tv, p_tw, p_rv, p_rw]
        rfl
  · simp only [if_neg h0]
    by_cases h2 : N.1 0 36 - 1 ≤ 0
    · simp only [if_pos h2]
      (simp only [V_0_36, V_0_33, mm_gv]) <;> dsimp only [m_tm, m_cn, m_fs, m_wf, m_wg, m_wb, m_gv, m_gz, m_gi, m_cv, m_st, m_sw, m_tv, m_tw, m_rv, m_rw, p_tm, p_cn, p_fs, p_wf, p_wg, p_wb, p_gv, p_gz, p_gi, p_cv, p_st, p_sw, p_tv, p_tw, p_rv, p_rw]
      rfl
    · simp only [if_neg h2]
      (simp only [V_0_36, mm_gv]) <;> dsimp only [m_tm, m_cn, m_fs, m_wf, m_wg, m_wb, m_gv, m_gz, m_gi, m_cv, m_st, m_sw, m_tv, m_tw, m_rv, m_rw, p_tm, p_cn, p_fs, p_wf, p_wg, p_wb, p_gv, p_gz, p_gi, p_cv, p_st, p_sw, p_tv, p_tw, p_rv, p_rw]
      rfl
/-- what holds of the ground's frames -/
def GI (f : Nat → Int32) (g : Nat → Int64) : Prop := (∃ o, o ≤ 7 ∧ f 5 = nI o) ∧ (∃ x, x < 16 ∧ f 4 = nI x) ∧ (f 3 ≠ 0 → f 5 = 0) ∧ b01 (f 9) ∧ ∀ k, ¬ g k < 0
set_option maxHeartbeats 4000000 in
set_option maxRecDepth 100000 in
theorem gi_alert {f z : Nat → Int32} {g : Nat → Int64} (x : Int32) (h : GI f g) : GI (g_GF_alert f z g x).1 (g_GF_alert f z g x).2.2 := ⟨⟨0, by decide, rfl⟩, h.2.1, fun _ => rfl, Or.inr rfl, h.2.2.2.2⟩
set_option maxHeartbeats 4000000 in
set_option maxRecDepth 100000 in
theorem gi_set {f : Nat → Int32} {g : Nat → Int64} {k : Nat} {v : Int32} (h3 : k ≠ 3) (h4 : k ≠ 4) (h5 : k ≠ 5) (h9 : k ≠ 9) (h : GI f g) : GI (upd f k v) g := by
  have e3 : upd f k v 3 = f 3 := pk_un (Ne.symm h3)
  have e4 : upd f k v 4 = f 4 := pk_un (Ne.symm h4)
  have e5 : upd f k v 5 = f 5 := pk_un (Ne.symm h5)
  have e9 : upd f k v 9 = f 9 := pk_un (Ne.symm h9)
  unfold GI
  rw [e3, e4, e5, e9]
  exact h
set_option maxHeartbeats 4000000 in
set_option maxRecDepth 100000 in
theorem gi_dir {f : Nat → Int32} {g : Nat → Int64} {v : Int32} (hv : b01 v) (h : GI f g) : GI (upd f 9 v) g := ⟨h.1, h.2.1, h.2.2.1, hv, h.2.2.2.2⟩
set_option maxHeartbeats 4000000 in
set_option maxRecDepth 100000 in
theorem gi_conf {f z : Nat → Int32} {g : Nat → Int64} {c : Nat} (hc : nI c ≤ f 5) (hc16 : c < 16) (h : GI f g) : GI (g_GF_confirm f z g (nI c)).1 (g_GF_confirm f z g (nI c)).2.2 := by
  unfold g_GF_confirm
  split
  · exact h
  · refine gi_set (by decide) (by decide) (by decide) (by decide) (gi_set (by decide) (by decide) (by decide) (by decide) ?_)
    obtain ⟨⟨o, ho, eo⟩, h2, h3, h4⟩ := h
    rw [eo] at hc
    have hco : c ≤ o := (nI_leI (by omega) (by omega)).1 hc
    have es : nI o - nI c = nI (o - c) := by
      have : nI o = nI (o - c) + nI c := by rw [nI_add, Nat.sub_add_cancel hco]
      rw [this, Int32.add_sub_cancel]
    refine ⟨⟨o - c, by omega, ?_⟩, h2, fun hs => ?_, h4⟩
    · show f 5 - nI c = _
      rw [eo, es]
    · have h0 := h3 hs
      have : o = 0 := by
        rw [h0] at eo
        exact (nI_eq (a := o) (b := 0) (by omega) (by omega)).1 (eo.symm.trans nI_0.symm)
      show f 5 - nI c = 0
      rw [eo, es, this]
      rw [Nat.zero_sub]; rfl
set_option maxHeartbeats 4000000 in
set_option maxRecDepth 100000 in
theorem gi_mark {f z : Nat → Int32} {g : Nat → Int64} (h : GI f g) : GI (g_GF_markAll f z g).1 (g_GF_markAll f z g).2.2 := by
  rw [(mark_f f z g).1, (mark_f f z g).2]; exact h
set_option maxHeartbeats 4000000 in
set_option maxRecDepth 100000 in
theorem gi_rec {f z : Nat → Int32} {g : Nat → Int64} (x : Int32) (h : GI f g) : GI (g_GF_recover f z g x).1 (g_GF_recover f z g x).2.2 := by
  unfold g_GF_recover
  split
  · split
    · exact gi_alert 2 h
    · exact gi_set (by decide) (by decide) (by decide) (by decide) (gi_set (by decide) (by decide) (by decide) (by decide) (gi_mark (gi_set (by decide) (by decide) (by decide) (by decide) h)))
  · exact gi_set (by decide) (by decide) (by decide) (by decide) (gi_set (by decide) (by decide) (by decide) (by decide) (gi_mark h))
set_option maxHeartbeats 4000000 in
set_option maxRecDepth 100000 in
theorem gi_haF {f z : Nat → Int32} {g : Nat → Int64} (x3 X : Int32) (h : GI f g) : GI (haF x3 X f z g).1 (haF x3 X f z g).2.2 := by
  unfold haF
  split
  · exact gi_set (by decide) (by decide) (by decide) (by decide) h
  · split
    · exact h
    · split
      · split
        · exact gi_rec 0 h
        · exact gi_rec 1 h
      · split
        · split
          · exact gi_rec 0 h
          · exact gi_rec 1 h
        · exact h
set_option maxHeartbeats 4000000 in
set_option maxRecDepth 100000 in
theorem gi_hear {f z : Nat → Int32} {g : Nat → Int64} (x1 x2 x3 : Int32) (h : GI f g) : GI (g_GF_hear f z g x1 x2 x3).1 (g_GF_hear f z g x1 x2 x3).2.2 := by
  unfold g_GF_hear
  by_cases h0 : f 3 = 0
  · rw [if_pos h0]
    show GI (g_GF_hearActive f z g x1 x2 x3).1 (g_GF_hearActive f z g x1 x2 x3).2.2
    rw [ha_eq]
    split
    · obtain ⟨c, hc, ec⟩ := pk_andE (x1 - f 4 + f 5) (m := 15) 4 rfl
      rw [ec]
      split
      · rename_i h1
        exact gi_haF _ _ (gi_conf h1 hc h)
      · exact gi_alert 2 h
    · exact gi_alert 1 h
  · rw [if_neg h0]
    have hd : ∀ v, GI (upd (upd f 3 v) 9 1) g := fun v => ⟨h.1, h.2.1, fun _ => h.2.2.1 h0, Or.inr rfl, h.2.2.2.2⟩
    split
    · split
      · exact hd 2
      · exact h
    · split
      · split
        · split
          · exact ⟨h.1, h.2.1, fun _ => h.2.2.1 h0, Or.inl rfl, h.2.2.2.2⟩
          · exact h
        · exact h
      · exact hd 1
set_option maxHeartbeats 4000000 in
set_option maxRecDepth 100000 in
theorem gi_step {f z : Nat → Int32} {g : Nat → Int64} (h : GI f g) : GI (g_GF_stepClock f z g).1 (g_GF_stepClock f z g).2.2 := by
  unfold g_GF_stepClock
  have h7 : GI (upd f 7 (f 7 - 1)) g := gi_set (by decide) (by decide) (by decide) (by decide) h
  have h77 : GI (upd (upd f 7 (f 7 - 1)) 7 (f 0)) g := gi_set (by decide) (by decide) (by decide) (by decide) h7
  split
  · split
    · exact h
    · split
      · split
        · exact gi_alert 2 h77
        · exact gi_mark (gi_set (by decide) (by decide) (by decide) (by decide) h77)
      · exact h7
  · split
    · exact gi_dir (Or.inr rfl) h77
    · exact h7
