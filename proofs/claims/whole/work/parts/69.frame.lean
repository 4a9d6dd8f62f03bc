/-! the craft hears a frame -/
set_option maxHeartbeats 4000000 in
set_option maxRecDepth 100000 in
theorem ct_no (v : Vw) (x : Int64) (hx : ¬ lg_cmp x (-1) = 0) (hg : (g_CF_giveOn v.cv (g_FL_fourBitsAt x 52) (g_FL_fourBitsAt x 48)).1 = 0) : g_CT_hear (XX v) x = XX (mkV v.tm v.cn v.fs v.wf v.wg v.wb v.gv v.gz v.gi ((g_CF_giveOn v.cv (g_FL_fourBitsAt x 52) (g_FL_fourBitsAt x 48)).2) v.st v.sw v.tv v.tw v.rv v.rw) := by
  unfold g_CT_hear
  rw [if_neg hx, X_16, if_pos hg, X_pCF]
def yFr (M : fl_M) (ty nu : Int32) (x1 : Int64) : fl_M :=
  if ty = 0 then (if (M.1 0 39) = 0 then (if ((nu - (M.1 0 38)) &&& 15) = 0 then ((g_MD_craftPdu (fl_i (fl_i M 0 38 (((M.1 0 38) + 1) &&& 15)) 0 40 0) x1)) else (if 8 ≤ ((nu - (M.1 0 38)) &&& 15) then (if ((nu - (M.1 0 38)) &&& 15) = 8 then ((fl_i M 0 39 1)) else (M)) else ((fl_i M 0 40 1)))) else (M)) else (if ty = 1 then ((g_MD_craftPdu M x1)) else (if ty = 2 then ((fl_i (fl_i M 0 39 0) 0 40 0)) else (if ty = 3 then (if (M.1 0 39) = 0 then ((fl_i (fl_i M 0 38 nu) 0 40 0)) else (M)) else (M))))
set_option maxHeartbeats 4000000 in
set_option maxRecDepth 100000 in
theorem yFr_eq (M : fl_M) (x1 : Int64) : g_MD_craftFrame M x1 = yFr M (((j_lshr x1 52) &&& 15).toInt32) (((j_lshr x1 48) &&& 15).toInt32) x1 := rfl
set_option maxHeartbeats 4000000 in
set_option maxRecDepth 100000 in
theorem q4_f (x : Int64) (n : Int32) : ∃ k, k < 16 ∧ g_FL_fourBitsAt x n = nI k := q4_fb x n
set_option maxHeartbeats 4000000 in
set_option maxRecDepth 100000 in
theorem s_frame (N : fl_M) (W : Nat → Nat → Int32) (x : Int64) (hx : x ≠ -1) (hr : ∀ t, t < 16 → RV ((V N W).rv t)) (hl : ∀ t, t < 16 → L7 ((V N W).rv t)) : g_CT_hear (XX (V N W)) x = XX (V (g_MD_craftFrame N x) W) := by
  have hx : ¬ lg_cmp x (-1) = 0 := fun c => hx (cmpE.1 c)
  obtain ⟨k, hk, eK⟩ := q4_f x 44
  obtain ⟨t, ht, eT⟩ := q4_f x 40
  obtain ⟨p, hp, eP⟩ : ∃ p, p < 256 ∧ ((j_lushr x 32).toInt32) &&& 255 = nI p := pk_andE _ 8 rfl
  have pdu : ∀ (N1 : fl_M) (c : Nat → Int32), V N1 W = (mkV (V N W).tm (V N W).cn (V N W).fs (V N W).wf (V N W).wg (V N W).wb (V N W).gv (V N W).gz (V N W).gi (c) (V N W).st (V N W).sw (V N W).tv (V N W).tw (V N W).rv (V N W).rw) → ¬ (g_CF_giveOn (V N W).cv (g_FL_fourBitsAt x 52) (g_FL_fourBitsAt x 48)).1 = 0 → (g_CF_giveOn (V N W).cv (g_FL_fourBitsAt x 52) (g_FL_fourBitsAt x 48)).2 = c → g_CT_hear (XX (V N W)) x = XX (V (g_MD_craftPdu N1 x) W) := by
    intro N1 c h1 h2 h3
    rw [yPdu_eq, ← fb_44, ← fb_40, ← po_eq, eK, eT, eP, pdu_v N1 W ht hp hk (by rw [h1]; exact hr t ht) (by rw [h1]; exact hl t ht), ct_pdu _ x ht eT eK eP hx h2, h3, h1]
    dsimp only [m_tm, m_cn, m_fs, m_wf, m_wg, m_wb, m_gv, m_gz, m_gi, m_cv, m_st, m_sw, m_tv, m_tw, m_rv, m_rw, p_tm, p_cn, p_fs, p_wf, p_wg, p_wb, p_gv, p_gz, p_gi, p_cv, p_st, p_sw, p_tv, p_tw, p_rv, p_rw]
  rw [yFr_eq, ← fb_52, ← fb_48]
  have no : ∀ (N1 : fl_M) (c : Nat → Int32), V N1 W = (mkV (V N W).tm (V N W).cn (V N W).fs (V N W).wf (V N W).wg (V N W).wb (V N W).gv (V N W).gz (V N W).gi (c) (V N W).st (V N W).sw (V N W).tv (V N W).tw (V N W).rv (V N W).rw) → (g_CF_giveOn (V N W).cv (g_FL_fourBitsAt x 52) (g_FL_fourBitsAt x 48)).1 = 0 → (g_CF_giveOn (V N W).cv (g_FL_fourBitsAt x 52) (g_FL_fourBitsAt x 48)).2 = c → g_CT_hear (XX (V N W)) x = XX (V N1 W) := by
    intro N1 c h1 h2 h3
    rw [ct_no _ x hx h2, h3, h1]
  revert pdu no
  generalize g_FL_fourBitsAt x 52 = ty
  generalize g_FL_fourBitsAt x 48 = nu
  intro pdu no
  unfold yFr
  unfold g_CF_giveOn g_CF_giveOnInOrder at pdu no
  have c0 : (V N W).cv 0 = N.1 0 38 := rfl
  have c1 : (V N W).cv 1 = N.1 0 39 := rfl
  have same : V N W = (mkV (V N W).tm (V N W).cn (V N W).fs (V N W).wf (V N W).wg (V N W).wb (V N W).gv (V N W).gz (V N W).gi ((V N W).cv) (V N W).st (V N W).sw (V N W).tv (V N W).tw (V N W).rv (V N W).rw) := rfl
  simp only [c0, c1] at pdu no
  by_cases h0 : ty = 0
  · simp only [if_pos h0] at pdu no ⊢
    by_cases h1 : N.1 0 39 = 0
    · simp only [if_pos h1] at pdu no ⊢
      by_cases h2 : (nu - N.1 0 38) &&& 15 = 0
      · simp only [if_pos h2] at pdu no ⊢
        refine pdu _ _ ?_ (show ¬ (1 : Int32) = 0 by decide) rfl
        (simp only [V_0_40, V_0_38, mm_cv]) <;> dsimp only [m_tm, m_cn, m_fs, m_wf, m_wg, m_wb, m_gv, m_gz, m_gi, m_cv, m_st, m_sw, m_tv, m_tw, m_rv, m_rw, p_tm, p_cn, p_fs, p_wf, p_wg, p_wb, p_gv, p_gz, p_gi, p_cv, p_st, p_sw, p_tv, p_tw, p_rv, p_rw]
        rfl
      · simp only [if_neg h2] at pdu no ⊢
        by_cases h3 : 8 ≤ (nu - N.1 0 38) &&& 15
        · simp only [if_pos h3] at pdu no ⊢
          by_cases h4 : (nu - N.1 0 38) &&& 15 = 8
          · simp only [if_pos h4] at pdu no ⊢
            exact no _ _ (V_0_39 N W 1) (by trivial) rfl
          · simp only [if_neg h4] at pdu no ⊢
            exact no _ _ same (by trivial) rfl
        · simp only [if_neg h3] at pdu no ⊢
          exact no _ _ (V_0_40 N W 1) (by trivial) rfl
    · simp only [if_neg h1] at pdu no ⊢
      exact no _ _ same (by trivial) rfl
  · simp only [if_neg h0] at pdu no ⊢
    by_cases h1 : ty = 1
    · simp only [if_pos h1] at pdu no ⊢
      exact pdu _ _ same (show ¬ (1 : Int32) = 0 by decide) rfl
    · simp only [if_neg h1] at pdu no ⊢
      by_cases h2 : ty = 2
      · simp only [if_pos h2] at pdu no ⊢
        refine no _ _ ?_ (by trivial) rfl
        (simp only [V_0_40, V_0_39, mm_cv]) <;> dsimp only [m_tm, m_cn, m_fs, m_wf, m_wg, m_wb, m_gv, m_gz, m_gi, m_cv, m_st, m_sw, m_tv, m_tw, m_rv, m_rw, p_tm, p_cn, p_fs, p_wf, p_wg, p_wb, p_gv, p_gz, p_gi, p_cv, p_st, p_sw, p_tv, p_tw, p_rv, p_rw]
      · simp only [if_neg h2] at pdu no ⊢
        by_cases h3 : ty = 3
        · simp only [if_pos h3] at pdu no ⊢
          by_cases h4 : N.1 0 39 = 0
          · simp only [if_pos h4] at pdu no ⊢
            refine no _ _ ?_ (by trivial) rfl
            (simp only [V_0_40, V_0_38, mm_cv]) <;> dsimp only [m_tm, m_cn, m_fs, m_wf, m_wg, m_wb, m_gv, m_gz, m_gi, m_cv, m_st, m_sw, m_tv, m_tw, m_rv, m_rw, p_tm, p_cn, p_fs, p_wf, p_wg, p_wb, p_gv, p_gz, p_gi, p_cv, p_st, p_sw, p_tv, p_tw, p_rv, p_rw]
          · simp only [if_neg h4] at pdu no ⊢
            exact no _ _ same (by trivial) rfl
        · simp only [if_neg h3] at pdu no ⊢
          exact no _ _ same (by trivial) rfl
