/-! records: every PDU -/
def yPdu (M : fl_M) (kd tt po xw : Int32) : fl_M :=
  if kd < 1 then (M) else (if 5 < kd then (M) else (if kd = 5 then (if (M.1 25 (tt.toNatClampNeg)) = 0 then (M) else (if (M.1 36 (tt.toNatClampNeg)) = 0 then (if ((fl_i M 25 (tt.toNatClampNeg) (M.1 25 (tt.toNatClampNeg))).1 25 (tt.toNatClampNeg)) = 1 then ((fl_i (fl_i (fl_i M 25 (tt.toNatClampNeg) (M.1 25 (tt.toNatClampNeg))) 36 (tt.toNatClampNeg) 0) 35 (tt.toNatClampNeg) (12 * (M.1 0 1)))) else (if ((fl_i M 25 (tt.toNatClampNeg) (M.1 25 (tt.toNatClampNeg))).1 25 (tt.toNatClampNeg)) = 2 then ((g_MD_close (fl_i (fl_i M 25 (tt.toNatClampNeg) (M.1 25 (tt.toNatClampNeg))) 36 (tt.toNatClampNeg) 0) tt)) else ((fl_i (fl_i M 25 (tt.toNatClampNeg) (M.1 25 (tt.toNatClampNeg))) 36 (tt.toNatClampNeg) 0)))) else (if ((fl_i M 25 (tt.toNatClampNeg) (M.1 25 (tt.toNatClampNeg))).1 25 (tt.toNatClampNeg)) = 1 then ((fl_i (fl_i (fl_i M 25 (tt.toNatClampNeg) (M.1 25 (tt.toNatClampNeg))) 36 (tt.toNatClampNeg) 1) 35 (tt.toNatClampNeg) (12 * (M.1 0 1)))) else (if ((fl_i M 25 (tt.toNatClampNeg) (M.1 25 (tt.toNatClampNeg))).1 25 (tt.toNatClampNeg)) = 2 then ((g_MD_close (fl_i (fl_i M 25 (tt.toNatClampNeg) (M.1 25 (tt.toNatClampNeg))) 36 (tt.toNatClampNeg) 1) tt)) else ((fl_i (fl_i M 25 (tt.toNatClampNeg) (M.1 25 (tt.toNatClampNeg))) 36 (tt.toNatClampNeg) 1)))))) else (if (M.1 25 (tt.toNatClampNeg)) = 0 then (if (M.1 36 (tt.toNatClampNeg)) = 0 then (if kd = 3 then (if ((fl_i M 25 (tt.toNatClampNeg) 1).1 25 (tt.toNatClampNeg)) = 1 then (if ((g_MD_takes (fl_i (fl_i (fl_i M 25 (tt.toNatClampNeg) 1) 36 (tt.toNatClampNeg) 1) 35 (tt.toNatClampNeg) (12 * (M.1 0 1))) tt kd po xw).1) = 0 then ((g_MD_takes (fl_i (fl_i (fl_i M 25 (tt.toNatClampNeg) 1) 36 (tt.toNatClampNeg) 1) 35 (tt.toNatClampNeg) (12 * (M.1 0 1))) tt kd po xw).2) else ((g_MD_whole ((g_MD_takes (fl_i (fl_i (fl_i M 25 (tt.toNatClampNeg) 1) 36 (tt.toNatClampNeg) 1) 35 (tt.toNatClampNeg) (12 * (M.1 0 1))) tt kd po xw).2) tt kd))) else (if ((fl_i M 25 (tt.toNatClampNeg) 1).1 25 (tt.toNatClampNeg)) = 2 then ((fl_i (fl_i M 25 (tt.toNatClampNeg) 1) 36 (tt.toNatClampNeg) 1)) else ((fl_i (fl_i M 25 (tt.toNatClampNeg) 1) 36 (tt.toNatClampNeg) 1)))) else (if kd = 4 then (if ((fl_i M 25 (tt.toNatClampNeg) 1).1 25 (tt.toNatClampNeg)) = 1 then ((g_MD_finish (fl_i (fl_i (fl_i M 25 (tt.toNatClampNeg) 1) 36 (tt.toNatClampNeg) 1) 35 (tt.toNatClampNeg) (12 * (M.1 0 1))) tt 5)) else (if ((fl_i M 25 (tt.toNatClampNeg) 1).1 25 (tt.toNatClampNeg)) = 2 then ((fl_i (fl_i M 25 (tt.toNatClampNeg) 1) 36 (tt.toNatClampNeg) 1)) else ((fl_i (fl_i M 25 (tt.toNatClampNeg) 1) 36 (tt.toNatClampNeg) 1)))) else (if ((fl_i M 25 (tt.toNatClampNeg) 1).1 25 (tt.toNatClampNeg)) = 1 then (if 4 ≤ kd then ((fl_i (fl_i (fl_i M 25 (tt.toNatClampNeg) 1) 36 (tt.toNatClampNeg) 0) 35 (tt.toNatClampNeg) (12 * (M.1 0 1)))) else (if ((g_MD_takes (fl_i (fl_i (fl_i M 25 (tt.toNatClampNeg) 1) 36 (tt.toNatClampNeg) 0) 35 (tt.toNatClampNeg) (12 * (M.1 0 1))) tt kd po xw).1) = 0 then ((g_MD_takes (fl_i (fl_i (fl_i M 25 (tt.toNatClampNeg) 1) 36 (tt.toNatClampNeg) 0) 35 (tt.toNatClampNeg) (12 * (M.1 0 1))) tt kd po xw).2) else ((g_MD_whole ((g_MD_takes (fl_i (fl_i (fl_i M 25 (tt.toNatClampNeg) 1) 36 (tt.toNatClampNeg) 0) 35 (tt.toNatClampNeg) (12 * (M.1 0 1))) tt kd po xw).2) tt kd)))) else (if ((fl_i M 25 (tt.toNatClampNeg) 1).1 25 (tt.toNatClampNeg)) = 2 then ((fl_i (fl_i M 25 (tt.toNatClampNeg) 1) 36 (tt.toNatClampNeg) 0)) else ((fl_i (fl_i M 25 (tt.toNatClampNeg) 1) 36 (tt.toNatClampNeg) 0)))))) else (if ((fl_i M 25 (tt.toNatClampNeg) 1).1 25 (tt.toNatClampNeg)) = 1 then (if kd = 4 then ((g_MD_finish (fl_i (fl_i (fl_i M 25 (tt.toNatClampNeg) 1) 36 (tt.toNatClampNeg) 1) 35 (tt.toNatClampNeg) (12 * (M.1 0 1))) tt 5)) else (if 4 ≤ kd then ((fl_i (fl_i (fl_i M 25 (tt.toNatClampNeg) 1) 36 (tt.toNatClampNeg) 1) 35 (tt.toNatClampNeg) (12 * (M.1 0 1)))) else (if ((g_MD_takes (fl_i (fl_i (fl_i M 25 (tt.toNatClampNeg) 1) 36 (tt.toNatClampNeg) 1) 35 (tt.toNatClampNeg) (12 * (M.1 0 1))) tt kd po xw).1) = 0 then ((g_MD_takes (fl_i (fl_i (fl_i M 25 (tt.toNatClampNeg) 1) 36 (tt.toNatClampNeg) 1) 35 (tt.toNatClampNeg) (12 * (M.1 0 1))) tt kd po xw).2) else ((g_MD_whole ((g_MD_takes (fl_i (fl_i (fl_i M 25 (tt.toNatClampNeg) 1) 36 (tt.toNatClampNeg) 1) 35 (tt.toNatClampNeg) (12 * (M.1 0 1))) tt kd po xw).2) tt kd))))) else (if ((fl_i M 25 (tt.toNatClampNeg) 1).1 25 (tt.toNatClampNeg)) = 2 then ((fl_i (fl_i M 25 (tt.toNatClampNeg) 1) 36 (tt.toNatClampNeg) 1)) else ((fl_i (fl_i M 25 (tt.toNatClampNeg) 1) 36 (tt.toNatClampNeg) 1))))) else (if (M.1 36 (tt.toNatClampNeg)) = 0 then (if kd = 3 then (if ((fl_i M 25 (tt.toNatClampNeg) (M.1 25 (tt.toNatClampNeg))).1 25 (tt.toNatClampNeg)) = 1 then (if ((g_MD_takes (fl_i (fl_i (fl_i M 25 (tt.toNatClampNeg) (M.1 25 (tt.toNatClampNeg))) 36 (tt.toNatClampNeg) 1) 35 (tt.toNatClampNeg) (12 * (M.1 0 1))) tt kd po xw).1) = 0 then ((g_MD_takes (fl_i (fl_i (fl_i M 25 (tt.toNatClampNeg) (M.1 25 (tt.toNatClampNeg))) 36 (tt.toNatClampNeg) 1) 35 (tt.toNatClampNeg) (12 * (M.1 0 1))) tt kd po xw).2) else ((g_MD_whole ((g_MD_takes (fl_i (fl_i (fl_i M 25 (tt.toNatClampNeg) (M.1 25 (tt.toNatClampNeg))) 36 (tt.toNatClampNeg) 1) 35 (tt.toNatClampNeg) (12 * (M.1 0 1))) tt kd po xw).2) tt kd))) else (if ((fl_i M 25 (tt.toNatClampNeg) (M.1 25 (tt.toNatClampNeg))).1 25 (tt.toNatClampNeg)) = 2 then ((fl_i (fl_i M 25 (tt.toNatClampNeg) (M.1 25 (tt.toNatClampNeg))) 36 (tt.toNatClampNeg) 1)) else ((fl_i (fl_i M 25 (tt.toNatClampNeg) (M.1 25 (tt.toNatClampNeg))) 36 (tt.toNatClampNeg) 1)))) else (if kd = 4 then (if ((fl_i M 25 (tt.toNatClampNeg) (M.1 25 (tt.toNatClampNeg))).1 25 (tt.toNatClampNeg)) = 1 then ((g_MD_finish (fl_i (fl_i (fl_i M 25 (tt.toNatClampNeg) (M.1 25 (tt.toNatClampNeg))) 36 (tt.toNatClampNeg) 1) 35 (tt.toNatClampNeg) (12 * (M.1 0 1))) tt 5)) else (if ((fl_i M 25 (tt.toNatClampNeg) (M.1 25 (tt.toNatClampNeg))).1 25 (tt.toNatClampNeg)) = 2 then ((fl_i (fl_i M 25 (tt.toNatClampNeg) (M.1 25 (tt.toNatClampNeg))) 36 (tt.toNatClampNeg) 1)) else ((fl_i (fl_i M 25 (tt.toNatClampNeg) (M.1 25 (tt.toNatClampNeg))) 36 (tt.toNatClampNeg) 1)))) else (if ((fl_i M 25 (tt.toNatClampNeg) (M.1 25 (tt.toNatClampNeg))).1 25 (tt.toNatClampNeg)) = 1 then (if 4 ≤ kd then ((fl_i (fl_i (fl_i M 25 (tt.toNatClampNeg) (M.1 25 (tt.toNatClampNeg))) 36 (tt.toNatClampNeg) 0) 35 (tt.toNatClampNeg) (12 * (M.1 0 1)))) else (if ((g_MD_takes (fl_i (fl_i (fl_i M 25 (tt.toNatClampNeg) (M.1 25 (tt.toNatClampNeg))) 36 (tt.toNatClampNeg) 0) 35 (tt.toNatClampNeg) (12 * (M.1 0 1))) tt kd po xw).1) = 0 then ((g_MD_takes (fl_i (fl_i (fl_i M 25 (tt.toNatClampNeg) (M.1 25 (tt.toNatClampNeg))) 36 (tt.toNatClampNeg) 0) 35 (tt.toNatClampNeg) (12 * (M.1 0 1))) tt kd po xw).2) else ((g_MD_whole ((g_MD_takes (fl_i (fl_i (fl_i M 25 (tt.toNatClampNeg) (M.1 25 (tt.toNatClampNeg))) 36 (tt.toNatClampNeg) 0) 35 (tt.toNatClampNeg) (12 * (M.1 0 1))) tt kd po xw).2) tt kd)))) else (if ((fl_i M 25 (tt.toNatClampNeg) (M.1 25 (tt.toNatClampNeg))).1 25 (tt.toNatClampNeg)) = 2 then ((fl_i (fl_i M 25 (tt.toNatClampNeg) (M.1 25 (tt.toNatClampNeg))) 36 (tt.toNatClampNeg) 0)) else ((fl_i (fl_i M 25 (tt.toNatClampNeg) (M.1 25 (tt.toNatClampNeg))) 36 (tt.toNatClampNeg) 0)))))) else (if ((fl_i M 25 (tt.toNatClampNeg) (M.1 25 (tt.toNatClampNeg))).1 25 (tt.toNatClampNeg)) = 1 then (if kd = 4 then ((g_MD_finish (fl_i (fl_i (fl_i M 25 (tt.toNatClampNeg) (M.1 25 (tt.toNatClampNeg))) 36 (tt.toNatClampNeg) 1) 35 (tt.toNatClampNeg) (12 * (M.1 0 1))) tt 5)) else (if 4 ≤ kd then ((fl_i (fl_i (fl_i M 25 (tt.toNatClampNeg) (M.1 25 (tt.toNatClampNeg))) 36 (tt.toNatClampNeg) 1) 35 (tt.toNatClampNeg) (12 * (M.1 0 1)))) else (if ((g_MD_takes (fl_i (fl_i (fl_i M 25 (tt.toNatClampNeg) (M.1 25 (tt.toNatClampNeg))) 36 (tt.toNatClampNeg) 1) 35 (tt.toNatClampNeg) (12 * (M.1 0 1))) tt kd po xw).1) = 0 then ((g_MD_takes (fl_i (fl_i (fl_i M 25 (tt.toNatClampNeg) (M.1 25 (tt.toNatClampNeg))) 36 (tt.toNatClampNeg) 1) 35 (tt.toNatClampNeg) (12 * (M.1 0 1))) tt kd po xw).2) else ((g_MD_whole ((g_MD_takes (fl_i (fl_i (fl_i M 25 (tt.toNatClampNeg) (M.1 25 (tt.toNatClampNeg))) 36 (tt.toNatClampNeg) 1) 35 (tt.toNatClampNeg) (12 * (M.1 0 1))) tt kd po xw).2) tt kd))))) else (if ((fl_i M 25 (tt.toNatClampNeg) (M.1 25 (tt.toNatClampNeg))).1 25 (tt.toNatClampNeg)) = 2 then ((fl_i (fl_i M 25 (tt.toNatClampNeg) (M.1 25 (tt.toNatClampNeg))) 36 (tt.toNatClampNeg) 1)) else ((fl_i (fl_i M 25 (tt.toNatClampNeg) (M.1 25 (tt.toNatClampNeg))) 36 (tt.toNatClampNeg) 1))))))))
set_option maxHeartbeats 4000000 in
set_option maxRecDepth 100000 in
theorem yPdu_eq (M : fl_M) (x1 : Int64) : g_MD_craftPdu M x1 = yPdu M (((j_lshr x1 44) &&& 15).toInt32) (((j_lshr x1 40) &&& 15).toInt32) (((j_lshr x1 32) &&& 255).toInt32) x1.toInt32 := rfl

set_option maxHeartbeats 4000000 in
set_option maxRecDepth 100000 in
theorem pdu_1 (N : fl_M) (W : Nat → Nat → Int32) {t p : Nat} {x : Int32} (ht : t < 16) (hp : p < 256) (hr : RV ((V N W).rv t)) (hl : L7 ((V N W).rv t)) : XX (V (yPdu N 1 (nI t) (nI p) x) W) = aft (V N W) t (g_CR_hear ((V N W).rv t) ((V N W).rw t) 1 (nI p) x) := by
  have e2 : (V N W).rv t 2 = N.1 25 t := rfl
  have h0 : V (fl_i N 25 t 1) W = (mkV (V N W).tm (V N W).cn (V N W).fs (V N W).wf (V N W).wg (V N W).wb (V N W).gv (V N W).gz (V N W).gi (V N W).cv (V N W).st (V N W).sw (V N W).tv (V N W).tw (va_up (V N W).rv t (upd ((V N W).rv t) 2 1)) (V N W).rw) := V_25 N W t 1
  have h1 : V (fl_i N 36 t 1) W = (mkV (V N W).tm (V N W).cn (V N W).fs (V N W).wf (V N W).wg (V N W).wb (V N W).gv (V N W).gz (V N W).gi (V N W).cv (V N W).st (V N W).sw (V N W).tv (V N W).tw (va_up (V N W).rv t (upd ((V N W).rv t) 12 1)) (V N W).rw) := V_36 N W t 1
  have h2 : V (fl_i (fl_i N 25 t 1) 36 t 1) W = (mkV (V N W).tm (V N W).cn (V N W).fs (V N W).wf (V N W).wg (V N W).wb (V N W).gv (V N W).gz (V N W).gi (V N W).cv (V N W).st (V N W).sw (V N W).tv (V N W).tw (va_up (V N W).rv t (upd (upd ((V N W).rv t) 2 1) 12 1)) (V N W).rw) := by
    (simp only [V_36, V_25, va_up_up, va_up_self, mm_rv]) <;> dsimp only [m_tm, m_cn, m_fs, m_wf, m_wg, m_wb, m_gv, m_gz, m_gi, m_cv, m_st, m_sw, m_tv, m_tw, m_rv, m_rw, p_tm, p_cn, p_fs, p_wf, p_wg, p_wb, p_gv, p_gz, p_gi, p_cv, p_st, p_sw, p_tv, p_tw, p_rv, p_rw]
  have r0 : RI ((V (fl_i N 25 t 1) W).rv t) ∧ L7 ((V (fl_i N 25 t 1) W).rv t) := by rw [h0]; dsimp only [m_tm, m_cn, m_fs, m_wf, m_wg, m_wb, m_gv, m_gz, m_gi, m_cv, m_st, m_sw, m_tv, m_tw, m_rv, m_rw, p_tm, p_cn, p_fs, p_wf, p_wg, p_wb, p_gv, p_gz, p_gi, p_cv, p_st, p_sw, p_tv, p_tw, p_rv, p_rw]; rw [va_up_self]; exact ⟨ri_u (by decide) (by decide) hr.ri, l7_u (by decide) hl⟩
  have r1 : RI ((V (fl_i N 36 t 1) W).rv t) ∧ L7 ((V (fl_i N 36 t 1) W).rv t) := by rw [h1]; dsimp only [m_tm, m_cn, m_fs, m_wf, m_wg, m_wb, m_gv, m_gz, m_gi, m_cv, m_st, m_sw, m_tv, m_tw, m_rv, m_rw, p_tm, p_cn, p_fs, p_wf, p_wg, p_wb, p_gv, p_gz, p_gi, p_cv, p_st, p_sw, p_tv, p_tw, p_rv, p_rw]; rw [va_up_self]; exact ⟨ri_u (by decide) (by decide) hr.ri, l7_u (by decide) hl⟩
  have r2 : RI ((V (fl_i (fl_i N 25 t 1) 36 t 1) W).rv t) ∧ L7 ((V (fl_i (fl_i N 25 t 1) 36 t 1) W).rv t) := by rw [h2]; dsimp only [m_tm, m_cn, m_fs, m_wf, m_wg, m_wb, m_gv, m_gz, m_gi, m_cv, m_st, m_sw, m_tv, m_tw, m_rv, m_rw, p_tm, p_cn, p_fs, p_wf, p_wg, p_wb, p_gv, p_gz, p_gi, p_cv, p_st, p_sw, p_tv, p_tw, p_rv, p_rw]; rw [va_up_self]; exact ⟨ri_u (by decide) (by decide) (ri_u (by decide) (by decide) hr.ri), l7_u (by decide) (l7_u (by decide) hl)⟩
  unfold yPdu g_CR_hear g_CR_looksAt
  rw [clN ht, e2]
  rcases hr.st with hs | hs | hs | hs <;> rcases hr.got with hg | hg
  · have hs : N.1 25 t = 0 := hs
    have hg : N.1 36 t = 0 := hg
    simp (decide := true) only [hs, hg, fi_s, fi_id hs, fi_id (show (fl_i N 25 t 1).1 36 t = 0 from hg), if_true, if_false]
    have e := op_1 (fl_i N 25 t 1) W ht hp x r0.1 r0.2
    have er : (V (fl_i N 25 t 1) W).rv t = _ := (congrArg (fun v => v.rv t) h0).trans (va_up_self _ _ _)
    have ew : (V (fl_i N 25 t 1) W).rw t = _ := congrArg (fun v => v.rw t) h0
    rw [er, ew] at e
    refine e.trans ?_
    rw [h0]
    exact aft_rv _ _ _ _
  · have hs : N.1 25 t = 0 := hs
    have hg : N.1 36 t = 1 := hg
    simp (decide := true) only [hs, hg, fi_s, fi_id hs, fi_id (show (fl_i N 25 t 1).1 36 t = 1 from hg), if_true, if_false]
    have e := op_1 (fl_i N 25 t 1) W ht hp x r0.1 r0.2
    have er : (V (fl_i N 25 t 1) W).rv t = _ := (congrArg (fun v => v.rv t) h0).trans (va_up_self _ _ _)
    have ew : (V (fl_i N 25 t 1) W).rw t = _ := congrArg (fun v => v.rw t) h0
    rw [er, ew] at e
    refine e.trans ?_
    rw [h0]
    exact aft_rv _ _ _ _
  · have hs : N.1 25 t = 1 := hs
    have hg : N.1 36 t = 0 := hg
    simp (decide := true) only [hs, hg, fi_s, fi_id hs, fi_id hg, if_true, if_false]
    exact op_1 N W ht hp x hr.ri hl
  · have hs : N.1 25 t = 1 := hs
    have hg : N.1 36 t = 1 := hg
    simp (decide := true) only [hs, hg, fi_s, fi_id hs, fi_id hg, if_true, if_false]
    exact op_1 N W ht hp x hr.ri hl
  · have hs : N.1 25 t = 2 := hs
    have hg : N.1 36 t = 0 := hg
    simp (decide := true) only [hs, hg, fi_s, fi_id hs, fi_id hg, if_true, if_false]
    exact (aft_0 _ _ rfl rfl).symm
  · have hs : N.1 25 t = 2 := hs
    have hg : N.1 36 t = 1 := hg
    simp (decide := true) only [hs, hg, fi_s, fi_id hs, fi_id hg, if_true, if_false]
    exact (aft_0 _ _ rfl rfl).symm
  · have hs : N.1 25 t = 3 := hs
    have hg : N.1 36 t = 0 := hg
    simp (decide := true) only [hs, hg, fi_s, fi_id hs, fi_id hg, if_true, if_false]
    exact (aft_0 _ _ rfl rfl).symm
  · have hs : N.1 25 t = 3 := hs
    have hg : N.1 36 t = 1 := hg
    simp (decide := true) only [hs, hg, fi_s, fi_id hs, fi_id hg, if_true, if_false]
    exact (aft_0 _ _ rfl rfl).symm
set_option maxHeartbeats 4000000 in
set_option maxRecDepth 100000 in
theorem pdu_2 (N : fl_M) (W : Nat → Nat → Int32) {t p : Nat} {x : Int32} (ht : t < 16) (hp : p < 256) (hr : RV ((V N W).rv t)) (hl : L7 ((V N W).rv t)) : XX (V (yPdu N 2 (nI t) (nI p) x) W) = aft (V N W) t (g_CR_hear ((V N W).rv t) ((V N W).rw t) 2 (nI p) x) := by
  have e2 : (V N W).rv t 2 = N.1 25 t := rfl
  have h0 : V (fl_i N 25 t 1) W = (mkV (V N W).tm (V N W).cn (V N W).fs (V N W).wf (V N W).wg (V N W).wb (V N W).gv (V N W).gz (V N W).gi (V N W).cv (V N W).st (V N W).sw (V N W).tv (V N W).tw (va_up (V N W).rv t (upd ((V N W).rv t) 2 1)) (V N W).rw) := V_25 N W t 1
  have h1 : V (fl_i N 36 t 1) W = (mkV (V N W).tm (V N W).cn (V N W).fs (V N W).wf (V N W).wg (V N W).wb (V N W).gv (V N W).gz (V N W).gi (V N W).cv (V N W).st (V N W).sw (V N W).tv (V N W).tw (va_up (V N W).rv t (upd ((V N W).rv t) 12 1)) (V N W).rw) := V_36 N W t 1
  have h2 : V (fl_i (fl_i N 25 t 1) 36 t 1) W = (mkV (V N W).tm (V N W).cn (V N W).fs (V N W).wf (V N W).wg (V N W).wb (V N W).gv (V N W).gz (V N W).gi (V N W).cv (V N W).st (V N W).sw (V N W).tv (V N W).tw (va_up (V N W).rv t (upd (upd ((V N W).rv t) 2 1) 12 1)) (V N W).rw) := by
    (simp only [V_36, V_25, va_up_up, va_up_self, mm_rv]) <;> dsimp only [m_tm, m_cn, m_fs, m_wf, m_wg, m_wb, m_gv, m_gz, m_gi, m_cv, m_st, m_sw, m_tv, m_tw, m_rv, m_rw, p_tm, p_cn, p_fs, p_wf, p_wg, p_wb, p_gv, p_gz, p_gi, p_cv, p_st, p_sw, p_tv, p_tw, p_rv, p_rw]
  have r0 : RI ((V (fl_i N 25 t 1) W).rv t) ∧ L7 ((V (fl_i N 25 t 1) W).rv t) := by rw [h0]; dsimp only [m_tm, m_cn, m_fs, m_wf, m_wg, m_wb, m_gv, m_gz, m_gi, m_cv, m_st, m_sw, m_tv, m_tw, m_rv, m_rw, p_tm, p_cn, p_fs, p_wf, p_wg, p_wb, p_gv, p_gz, p_gi, p_cv, p_st, p_sw, p_tv, p_tw, p_rv, p_rw]; rw [va_up_self]; exact ⟨ri_u (by decide) (by decide) hr.ri, l7_u (by decide) hl⟩
  have r1 : RI ((V (fl_i N 36 t 1) W).rv t) ∧ L7 ((V (fl_i N 36 t 1) W).rv t) := by rw [h1]; dsimp only [m_tm, m_cn, m_fs, m_wf, m_wg, m_wb, m_gv, m_gz, m_gi, m_cv, m_st, m_sw, m_tv, m_tw, m_rv, m_rw, p_tm, p_cn, p_fs, p_wf, p_wg, p_wb, p_gv, p_gz, p_gi, p_cv, p_st, p_sw, p_tv, p_tw, p_rv, p_rw]; rw [va_up_self]; exact ⟨ri_u (by decide) (by decide) hr.ri, l7_u (by decide) hl⟩
  have r2 : RI ((V (fl_i (fl_i N 25 t 1) 36 t 1) W).rv t) ∧ L7 ((V (fl_i (fl_i N 25 t 1) 36 t 1) W).rv t) := by rw [h2]; dsimp only [m_tm, m_cn, m_fs, m_wf, m_wg, m_wb, m_gv, m_gz, m_gi, m_cv, m_st, m_sw, m_tv, m_tw, m_rv, m_rw, p_tm, p_cn, p_fs, p_wf, p_wg, p_wb, p_gv, p_gz, p_gi, p_cv, p_st, p_sw, p_tv, p_tw, p_rv, p_rw]; rw [va_up_self]; exact ⟨ri_u (by decide) (by decide) (ri_u (by decide) (by decide) hr.ri), l7_u (by decide) (l7_u (by decide) hl)⟩
  unfold yPdu g_CR_hear g_CR_looksAt
  rw [clN ht, e2]
  rcases hr.st with hs | hs | hs | hs <;> rcases hr.got with hg | hg
  · have hs : N.1 25 t = 0 := hs
    have hg : N.1 36 t = 0 := hg
    simp (decide := true) only [hs, hg, fi_s, fi_id hs, fi_id (show (fl_i N 25 t 1).1 36 t = 0 from hg), if_true, if_false]
    have e := op_2 (fl_i N 25 t 1) W ht hp x r0.1 r0.2
    have er : (V (fl_i N 25 t 1) W).rv t = _ := (congrArg (fun v => v.rv t) h0).trans (va_up_self _ _ _)
    have ew : (V (fl_i N 25 t 1) W).rw t = _ := congrArg (fun v => v.rw t) h0
    rw [er, ew] at e
    refine e.trans ?_
    rw [h0]
    exact aft_rv _ _ _ _
  · have hs : N.1 25 t = 0 := hs
    have hg : N.1 36 t = 1 := hg
    simp (decide := true) only [hs, hg, fi_s, fi_id hs, fi_id (show (fl_i N 25 t 1).1 36 t = 1 from hg), if_true, if_false]
    have e := op_2 (fl_i N 25 t 1) W ht hp x r0.1 r0.2
    have er : (V (fl_i N 25 t 1) W).rv t = _ := (congrArg (fun v => v.rv t) h0).trans (va_up_self _ _ _)
    have ew : (V (fl_i N 25 t 1) W).rw t = _ := congrArg (fun v => v.rw t) h0
    rw [er, ew] at e
    refine e.trans ?_
    rw [h0]
    exact aft_rv _ _ _ _
  · have hs : N.1 25 t = 1 := hs
    have hg : N.1 36 t = 0 := hg
    simp (decide := true) only [hs, hg, fi_s, fi_id hs, fi_id hg, if_true, if_false]
    exact op_2 N W ht hp x hr.ri hl
  · have hs : N.1 25 t = 1 := hs
    have hg : N.1 36 t = 1 := hg
    simp (decide := true) only [hs, hg, fi_s, fi_id hs, fi_id hg, if_true, if_false]
    exact op_2 N W ht hp x hr.ri hl
  · have hs : N.1 25 t = 2 := hs
    have hg : N.1 36 t = 0 := hg
    simp (decide := true) only [hs, hg, fi_s, fi_id hs, fi_id hg, if_true, if_false]
    exact (aft_0 _ _ rfl rfl).symm
  · have hs : N.1 25 t = 2 := hs
    have hg : N.1 36 t = 1 := hg
    simp (decide := true) only [hs, hg, fi_s, fi_id hs, fi_id hg, if_true, if_false]
    exact (aft_0 _ _ rfl rfl).symm
  · have hs : N.1 25 t = 3 := hs
    have hg : N.1 36 t = 0 := hg
    simp (decide := true) only [hs, hg, fi_s, fi_id hs, fi_id hg, if_true, if_false]
    exact (aft_0 _ _ rfl rfl).symm
  · have hs : N.1 25 t = 3 := hs
    have hg : N.1 36 t = 1 := hg
    simp (decide := true) only [hs, hg, fi_s, fi_id hs, fi_id hg, if_true, if_false]
    exact (aft_0 _ _ rfl rfl).symm
set_option maxHeartbeats 4000000 in
set_option maxRecDepth 100000 in
theorem pdu_3 (N : fl_M) (W : Nat → Nat → Int32) {t p : Nat} {x : Int32} (ht : t < 16) (hp : p < 256) (hr : RV ((V N W).rv t)) (hl : L7 ((V N W).rv t)) : XX (V (yPdu N 3 (nI t) (nI p) x) W) = aft (V N W) t (g_CR_hear ((V N W).rv t) ((V N W).rw t) 3 (nI p) x) := by
  have e2 : (V N W).rv t 2 = N.1 25 t := rfl
  have h0 : V (fl_i N 25 t 1) W = (mkV (V N W).tm (V N W).cn (V N W).fs (V N W).wf (V N W).wg (V N W).wb (V N W).gv (V N W).gz (V N W).gi (V N W).cv (V N W).st (V N W).sw (V N W).tv (V N W).tw (va_up (V N W).rv t (upd ((V N W).rv t) 2 1)) (V N W).rw) := V_25 N W t 1
  have h1 : V (fl_i N 36 t 1) W = (mkV (V N W).tm (V N W).cn (V N W).fs (V N W).wf (V N W).wg (V N W).wb (V N W).gv (V N W).gz (V N W).gi (V N W).cv (V N W).st (V N W).sw (V N W).tv (V N W).tw (va_up (V N W).rv t (upd ((V N W).rv t) 12 1)) (V N W).rw) := V_36 N W t 1
  have h2 : V (fl_i (fl_i N 25 t 1) 36 t 1) W = (mkV (V N W).tm (V N W).cn (V N W).fs (V N W).wf (V N W).wg (V N W).wb (V N W).gv (V N W).gz (V N W).gi (V N W).cv (V N W).st (V N W).sw (V N W).tv (V N W).tw (va_up (V N W).rv t (upd (upd ((V N W).rv t) 2 1) 12 1)) (V N W).rw) := by
    (simp only [V_36, V_25, va_up_up, va_up_self, mm_rv]) <;> dsimp only [m_tm, m_cn, m_fs, m_wf, m_wg, m_wb, m_gv, m_gz, m_gi, m_cv, m_st, m_sw, m_tv, m_tw, m_rv, m_rw, p_tm, p_cn, p_fs, p_wf, p_wg, p_wb, p_gv, p_gz, p_gi, p_cv, p_st, p_sw, p_tv, p_tw, p_rv, p_rw]
  have r0 : RI ((V (fl_i N 25 t 1) W).rv t) ∧ L7 ((V (fl_i N 25 t 1) W).rv t) := by rw [h0]; dsimp only [m_tm, m_cn, m_fs, m_wf, m_wg, m_wb, m_gv, m_gz, m_gi, m_cv, m_st, m_sw, m_tv, m_tw, m_rv, m_rw, p_tm, p_cn, p_fs, p_wf, p_wg, p_wb, p_gv, p_gz, p_gi, p_cv, p_st, p_sw, p_tv, p_tw, p_rv, p_rw]; rw [va_up_self]; exact ⟨ri_u (by decide) (by decide) hr.ri, l7_u (by decide) hl⟩
  have r1 : RI ((V (fl_i N 36 t 1) W).rv t) ∧ L7 ((V (fl_i N 36 t 1) W).rv t) := by rw [h1]; dsimp only [m_tm, m_cn, m_fs, m_wf, m_wg, m_wb, m_gv, m_gz, m_gi, m_cv, m_st, m_sw, m_tv, m_tw, m_rv, m_rw, p_tm, p_cn, p_fs, p_wf, p_wg, p_wb, p_gv, p_gz, p_gi, p_cv, p_st, p_sw, p_tv, p_tw, p_rv, p_rw]; rw [va_up_self]; exact ⟨ri_u (by decide) (by decide) hr.ri, l7_u (by decide) hl⟩
  have r2 : RI ((V (fl_i (fl_i N 25 t 1) 36 t 1) W).rv t) ∧ L7 ((V (fl_i (fl_i N 25 t 1) 36 t 1) W).rv t) := by rw [h2]; dsimp only [m_tm, m_cn, m_fs, m_wf, m_wg, m_wb, m_gv, m_gz, m_gi, m_cv, m_st, m_sw, m_tv, m_tw, m_rv, m_rw, p_tm, p_cn, p_fs, p_wf, p_wg, p_wb, p_gv, p_gz, p_gi, p_cv, p_st, p_sw, p_tv, p_tw, p_rv, p_rw]; rw [va_up_self]; exact ⟨ri_u (by decide) (by decide) (ri_u (by decide) (by decide) hr.ri), l7_u (by decide) (l7_u (by decide) hl)⟩
  unfold yPdu g_CR_hear g_CR_looksAt
  rw [clN ht, e2]
  rcases hr.st with hs | hs | hs | hs <;> rcases hr.got with hg | hg
  · have hs : N.1 25 t = 0 := hs
    have hg : N.1 36 t = 0 := hg
    simp (decide := true) only [hs, hg, fi_s, fi_id hs, fi_id (show (fl_i N 25 t 1).1 36 t = 0 from hg), if_true, if_false]
    have e := op_3 (fl_i (fl_i N 25 t 1) 36 t 1) W ht hp x r2.1 r2.2
    have er : (V (fl_i (fl_i N 25 t 1) 36 t 1) W).rv t = _ := (congrArg (fun v => v.rv t) h2).trans (va_up_self _ _ _)
    have ew : (V (fl_i (fl_i N 25 t 1) 36 t 1) W).rw t = _ := congrArg (fun v => v.rw t) h2
    rw [er, ew] at e
    refine e.trans ?_
    rw [h2]
    exact aft_rv _ _ _ _
  · have hs : N.1 25 t = 0 := hs
    have hg : N.1 36 t = 1 := hg
    simp (decide := true) only [hs, hg, fi_s, fi_id hs, fi_id (show (fl_i N 25 t 1).1 36 t = 1 from hg), if_true, if_false]
    have hf : upd (upd ((V N W).rv t) 2 1) 12 1 = upd ((V N W).rv t) 2 1 := upd_id hg
    rw [hf]
    have e := op_3 (fl_i N 25 t 1) W ht hp x r0.1 r0.2
    rw [h0] at e
    dsimp only [m_tm, m_cn, m_fs, m_wf, m_wg, m_wb, m_gv, m_gz, m_gi, m_cv, m_st, m_sw, m_tv, m_tw, m_rv, m_rw, p_tm, p_cn, p_fs, p_wf, p_wg, p_wb, p_gv, p_gz, p_gi, p_cv, p_st, p_sw, p_tv, p_tw, p_rv, p_rw] at e
    rw [va_up_self, aft_rv] at e
    exact e
  · have hs : N.1 25 t = 1 := hs
    have hg : N.1 36 t = 0 := hg
    simp (decide := true) only [hs, hg, fi_s, fi_id hs, fi_id hg, if_true, if_false]
    have e := op_3 (fl_i N 36 t 1) W ht hp x r1.1 r1.2
    have er : (V (fl_i N 36 t 1) W).rv t = _ := (congrArg (fun v => v.rv t) h1).trans (va_up_self _ _ _)
    have ew : (V (fl_i N 36 t 1) W).rw t = _ := congrArg (fun v => v.rw t) h1
    rw [er, ew] at e
    refine e.trans ?_
    rw [h1]
    exact aft_rv _ _ _ _
  · have hs : N.1 25 t = 1 := hs
    have hg : N.1 36 t = 1 := hg
    simp (decide := true) only [hs, hg, fi_s, fi_id hs, fi_id hg, if_true, if_false]
    have hf : upd ((V N W).rv t) 12 1 = (V N W).rv t := upd_id hg
    rw [hf]
    exact op_3 N W ht hp x hr.ri hl
  · have hs : N.1 25 t = 2 := hs
    have hg : N.1 36 t = 0 := hg
    simp (decide := true) only [hs, hg, fi_s, fi_id hs, fi_id hg, if_true, if_false]
    unfold aft
    rw [if_pos rfl]
    rw [h1]
    congr 1
    exact V_rvw1 rfl
  · have hs : N.1 25 t = 2 := hs
    have hg : N.1 36 t = 1 := hg
    simp (decide := true) only [hs, hg, fi_s, fi_id hs, fi_id hg, if_true, if_false]
    exact (aft_0 _ _ (upd_id (show (V N W).rv t 12 = 1 from hg)) rfl).symm
  · have hs : N.1 25 t = 3 := hs
    have hg : N.1 36 t = 0 := hg
    simp (decide := true) only [hs, hg, fi_s, fi_id hs, fi_id hg, if_true, if_false]
    unfold aft
    rw [if_pos rfl]
    rw [h1]
    congr 1
    exact V_rvw1 rfl
  · have hs : N.1 25 t = 3 := hs
    have hg : N.1 36 t = 1 := hg
    simp (decide := true) only [hs, hg, fi_s, fi_id hs, fi_id hg, if_true, if_false]
    exact (aft_0 _ _ (upd_id (show (V N W).rv t 12 = 1 from hg)) rfl).symm
set_option maxHeartbeats 4000000 in
set_option maxRecDepth 100000 in
theorem pdu_4 (N : fl_M) (W : Nat → Nat → Int32) {t p : Nat} {x : Int32} (ht : t < 16) (hp : p < 256) (hr : RV ((V N W).rv t)) (hl : L7 ((V N W).rv t)) : XX (V (yPdu N 4 (nI t) (nI p) x) W) = aft (V N W) t (g_CR_hear ((V N W).rv t) ((V N W).rw t) 4 (nI p) x) := by
  have e2 : (V N W).rv t 2 = N.1 25 t := rfl
  have h0 : V (fl_i N 25 t 1) W = (mkV (V N W).tm (V N W).cn (V N W).fs (V N W).wf (V N W).wg (V N W).wb (V N W).gv (V N W).gz (V N W).gi (V N W).cv (V N W).st (V N W).sw (V N W).tv (V N W).tw (va_up (V N W).rv t (upd ((V N W).rv t) 2 1)) (V N W).rw) := V_25 N W t 1
  have h1 : V (fl_i N 36 t 1) W = (mkV (V N W).tm (V N W).cn (V N W).fs (V N W).wf (V N W).wg (V N W).wb (V N W).gv (V N W).gz (V N W).gi (V N W).cv (V N W).st (V N W).sw (V N W).tv (V N W).tw (va_up (V N W).rv t (upd ((V N W).rv t) 12 1)) (V N W).rw) := V_36 N W t 1
  have h2 : V (fl_i (fl_i N 25 t 1) 36 t 1) W = (mkV (V N W).tm (V N W).cn (V N W).fs (V N W).wf (V N W).wg (V N W).wb (V N W).gv (V N W).gz (V N W).gi (V N W).cv (V N W).st (V N W).sw (V N W).tv (V N W).tw (va_up (V N W).rv t (upd (upd ((V N W).rv t) 2 1) 12 1)) (V N W).rw) := by
    (simp only [V_36, V_25, va_up_up, va_up_self, mm_rv]) <;> dsimp only [m_tm, m_cn, m_fs, m_wf, m_wg, m_wb, m_gv, m_gz, m_gi, m_cv, m_st, m_sw, m_tv, m_tw, m_rv, m_rw, p_tm, p_cn, p_fs, p_wf, p_wg, p_wb, p_gv, p_gz, p_gi, p_cv, p_st, p_sw, p_tv, p_tw, p_rv, p_rw]
  have r0 : RI ((V (fl_i N 25 t 1) W).rv t) ∧ L7 ((V (fl_i N 25 t 1) W).rv t) := by rw [h0]; dsimp only [m_tm, m_cn, m_fs, m_wf, m_wg, m_wb, m_gv, m_gz, m_gi, m_cv, m_st, m_sw, m_tv, m_tw, m_rv, m_rw, p_tm, p_cn, p_fs, p_wf, p_wg, p_wb, p_gv, p_gz, p_gi, p_cv, p_st, p_sw, p_tv, p_tw, p_rv, p_rw]; rw [va_up_self]; exact ⟨ri_u (by decide) (by decide) hr.ri, l7_u (by decide) hl⟩
  have r1 : RI ((V (fl_i N 36 t 1) W).rv t) ∧ L7 ((V (fl_i N 36 t 1) W).rv t) := by rw [h1]; dsimp only [m_tm, m_cn, m_fs, m_wf, m_wg, m_wb, m_gv, m_gz, m_gi, m_cv, m_st, m_sw, m_tv, m_tw, m_rv, m_rw, p_tm, p_cn, p_fs, p_wf, p_wg, p_wb, p_gv, p_gz, p_gi, p_cv, p_st, p_sw, p_tv, p_tw, p_rv, p_rw]; rw [va_up_self]; exact ⟨ri_u (by decide) (by decide) hr.ri, l7_u (by decide) hl⟩
  have r2 : RI ((V (fl_i (fl_i N 25 t 1) 36 t 1) W).rv t) ∧ L7 ((V (fl_i (fl_i N 25 t 1) 36 t 1) W).rv t) := by rw [h2]; dsimp only [m_tm, m_cn, m_fs, m_wf, m_wg, m_wb, m_gv, m_gz, m_gi, m_cv, m_st, m_sw, m_tv, m_tw, m_rv, m_rw, p_tm, p_cn, p_fs, p_wf, p_wg, p_wb, p_gv, p_gz, p_gi, p_cv, p_st, p_sw, p_tv, p_tw, p_rv, p_rw]; rw [va_up_self]; exact ⟨ri_u (by decide) (by decide) (ri_u (by decide) (by decide) hr.ri), l7_u (by decide) (l7_u (by decide) hl)⟩
  unfold yPdu g_CR_hear g_CR_looksAt
  rw [clN ht, e2]
  rcases hr.st with hs | hs | hs | hs <;> rcases hr.got with hg | hg
  · have hs : N.1 25 t = 0 := hs
    have hg : N.1 36 t = 0 := hg
    simp (decide := true) only [hs, hg, fi_s, fi_id hs, fi_id (show (fl_i N 25 t 1).1 36 t = 0 from hg), if_true, if_false]
    have e := op_4 (fl_i (fl_i N 25 t 1) 36 t 1) W ht hp x r2.1 r2.2
    have er : (V (fl_i (fl_i N 25 t 1) 36 t 1) W).rv t = _ := (congrArg (fun v => v.rv t) h2).trans (va_up_self _ _ _)
    have ew : (V (fl_i (fl_i N 25 t 1) 36 t 1) W).rw t = _ := congrArg (fun v => v.rw t) h2
    rw [er, ew] at e
    refine e.trans ?_
    rw [h2]
    exact aft_rv _ _ _ _
  · have hs : N.1 25 t = 0 := hs
    have hg : N.1 36 t = 1 := hg
    simp (decide := true) only [hs, hg, fi_s, fi_id hs, fi_id (show (fl_i N 25 t 1).1 36 t = 1 from hg), if_true, if_false]
    have hf : upd (upd ((V N W).rv t) 2 1) 12 1 = upd ((V N W).rv t) 2 1 := upd_id hg
    rw [hf]
    have e := op_4 (fl_i N 25 t 1) W ht hp x r0.1 r0.2
    rw [h0] at e
    dsimp only [m_tm, m_cn, m_fs, m_wf, m_wg, m_wb, m_gv, m_gz, m_gi, m_cv, m_st, m_sw, m_tv, m_tw, m_rv, m_rw, p_tm, p_cn, p_fs, p_wf, p_wg, p_wb, p_gv, p_gz, p_gi, p_cv, p_st, p_sw, p_tv, p_tw, p_rv, p_rw] at e
    rw [va_up_self, aft_rv] at e
    exact e
  · have hs : N.1 25 t = 1 := hs
    have hg : N.1 36 t = 0 := hg
    simp (decide := true) only [hs, hg, fi_s, fi_id hs, fi_id hg, if_true, if_false]
    have e := op_4 (fl_i N 36 t 1) W ht hp x r1.1 r1.2
    have er : (V (fl_i N 36 t 1) W).rv t = _ := (congrArg (fun v => v.rv t) h1).trans (va_up_self _ _ _)
    have ew : (V (fl_i N 36 t 1) W).rw t = _ := congrArg (fun v => v.rw t) h1
    rw [er, ew] at e
    refine e.trans ?_
    rw [h1]
    exact aft_rv _ _ _ _
  · have hs : N.1 25 t = 1 := hs
    have hg : N.1 36 t = 1 := hg
    simp (decide := true) only [hs, hg, fi_s, fi_id hs, fi_id hg, if_true, if_false]
    have hf : upd ((V N W).rv t) 12 1 = (V N W).rv t := upd_id hg
    rw [hf]
    exact op_4 N W ht hp x hr.ri hl
  · have hs : N.1 25 t = 2 := hs
    have hg : N.1 36 t = 0 := hg
    simp (decide := true) only [hs, hg, fi_s, fi_id hs, fi_id hg, if_true, if_false]
    unfold aft
    rw [if_pos rfl]
    rw [h1]
    congr 1
    exact V_rvw1 rfl
  · have hs : N.1 25 t = 2 := hs
    have hg : N.1 36 t = 1 := hg
    simp (decide := true) only [hs, hg, fi_s, fi_id hs, fi_id hg, if_true, if_false]
    exact (aft_0 _ _ (upd_id (show (V N W).rv t 12 = 1 from hg)) rfl).symm
  · have hs : N.1 25 t = 3 := hs
    have hg : N.1 36 t = 0 := hg
    simp (decide := true) only [hs, hg, fi_s, fi_id hs, fi_id hg, if_true, if_false]
    unfold aft
    rw [if_pos rfl]
    rw [h1]
    congr 1
    exact V_rvw1 rfl
  · have hs : N.1 25 t = 3 := hs
    have hg : N.1 36 t = 1 := hg
    simp (decide := true) only [hs, hg, fi_s, fi_id hs, fi_id hg, if_true, if_false]
    exact (aft_0 _ _ (upd_id (show (V N W).rv t 12 = 1 from hg)) rfl).symm
set_option maxHeartbeats 4000000 in
set_option maxRecDepth 100000 in
theorem pdu_5 (N : fl_M) (W : Nat → Nat → Int32) {t p : Nat} {x : Int32} (ht : t < 16) (hp : p < 256) (hr : RV ((V N W).rv t)) (hl : L7 ((V N W).rv t)) : XX (V (yPdu N 5 (nI t) (nI p) x) W) = aft (V N W) t (g_CR_hear ((V N W).rv t) ((V N W).rw t) 5 (nI p) x) := by
  have e2 : (V N W).rv t 2 = N.1 25 t := rfl
  have h0 : V (fl_i N 25 t 1) W = (mkV (V N W).tm (V N W).cn (V N W).fs (V N W).wf (V N W).wg (V N W).wb (V N W).gv (V N W).gz (V N W).gi (V N W).cv (V N W).st (V N W).sw (V N W).tv (V N W).tw (va_up (V N W).rv t (upd ((V N W).rv t) 2 1)) (V N W).rw) := V_25 N W t 1
  have h1 : V (fl_i N 36 t 1) W = (mkV (V N W).tm (V N W).cn (V N W).fs (V N W).wf (V N W).wg (V N W).wb (V N W).gv (V N W).gz (V N W).gi (V N W).cv (V N W).st (V N W).sw (V N W).tv (V N W).tw (va_up (V N W).rv t (upd ((V N W).rv t) 12 1)) (V N W).rw) := V_36 N W t 1
  have h2 : V (fl_i (fl_i N 25 t 1) 36 t 1) W = (mkV (V N W).tm (V N W).cn (V N W).fs (V N W).wf (V N W).wg (V N W).wb (V N W).gv (V N W).gz (V N W).gi (V N W).cv (V N W).st (V N W).sw (V N W).tv (V N W).tw (va_up (V N W).rv t (upd (upd ((V N W).rv t) 2 1) 12 1)) (V N W).rw) := by
    (simp only [V_36, V_25, va_up_up, va_up_self, mm_rv]) <;> dsimp only [m_tm, m_cn, m_fs, m_wf, m_wg, m_wb, m_gv, m_gz, m_gi, m_cv, m_st, m_sw, m_tv, m_tw, m_rv, m_rw, p_tm, p_cn, p_fs, p_wf, p_wg, p_wb, p_gv, p_gz, p_gi, p_cv, p_st, p_sw, p_tv, p_tw, p_rv, p_rw]
  have r0 : RI ((V (fl_i N 25 t 1) W).rv t) ∧ L7 ((V (fl_i N 25 t 1) W).rv t) := by rw [h0]; dsimp only [m_tm, m_cn, m_fs, m_wf, m_wg, m_wb, m_gv, m_gz, m_gi, m_cv, m_st, m_sw, m_tv, m_tw, m_rv, m_rw, p_tm, p_cn, p_fs, p_wf, p_wg, p_wb, p_gv, p_gz, p_gi, p_cv, p_st, p_sw, p_tv, p_tw, p_rv, p_rw]; rw [va_up_self]; exact ⟨ri_u (by decide) (by decide) hr.ri, l7_u (by decide) hl⟩
  have r1 : RI ((V (fl_i N 36 t 1) W).rv t) ∧ L7 ((V (fl_i N 36 t 1) W).rv t) := by rw [h1]; dsimp only [m_tm, m_cn, m_fs, m_wf, m_wg, m_wb, m_gv, m_gz, m_gi, m_cv, m_st, m_sw, m_tv, m_tw, m_rv, m_rw, p_tm, p_cn, p_fs, p_wf, p_wg, p_wb, p_gv, p_gz, p_gi, p_cv, p_st, p_sw, p_tv, p_tw, p_rv, p_rw]; rw [va_up_self]; exact ⟨ri_u (by decide) (by decide) hr.ri, l7_u (by decide) hl⟩
  have r2 : RI ((V (fl_i (fl_i N 25 t 1) 36 t 1) W).rv t) ∧ L7 ((V (fl_i (fl_i N 25 t 1) 36 t 1) W).rv t) := by rw [h2]; dsimp only [m_tm, m_cn, m_fs, m_wf, m_wg, m_wb, m_gv, m_gz, m_gi, m_cv, m_st, m_sw, m_tv, m_tw, m_rv, m_rw, p_tm, p_cn, p_fs, p_wf, p_wg, p_wb, p_gv, p_gz, p_gi, p_cv, p_st, p_sw, p_tv, p_tw, p_rv, p_rw]; rw [va_up_self]; exact ⟨ri_u (by decide) (by decide) (ri_u (by decide) (by decide) hr.ri), l7_u (by decide) (l7_u (by decide) hl)⟩
  unfold yPdu g_CR_hear g_CR_looksAt
  rw [clN ht, e2]
  rcases hr.st with hs | hs | hs | hs <;> rcases hr.got with hg | hg
  · have hs : N.1 25 t = 0 := hs
    have hg : N.1 36 t = 0 := hg
    simp (decide := true) only [hs, hg, fi_s, fi_id hs, fi_id (show (fl_i N 25 t 1).1 36 t = 0 from hg), if_true, if_false]
    exact (aft_0 _ _ rfl rfl).symm
  · have hs : N.1 25 t = 0 := hs
    have hg : N.1 36 t = 1 := hg
    simp (decide := true) only [hs, hg, fi_s, fi_id hs, fi_id (show (fl_i N 25 t 1).1 36 t = 1 from hg), if_true, if_false]
    exact (aft_0 _ _ rfl rfl).symm
  · have hs : N.1 25 t = 1 := hs
    have hg : N.1 36 t = 0 := hg
    simp (decide := true) only [hs, hg, fi_s, fi_id hs, fi_id hg, if_true, if_false]
    exact op_5 N W ht hp x hr.ri hl
  · have hs : N.1 25 t = 1 := hs
    have hg : N.1 36 t = 1 := hg
    simp (decide := true) only [hs, hg, fi_s, fi_id hs, fi_id hg, if_true, if_false]
    exact op_5 N W ht hp x hr.ri hl
  · have hs : N.1 25 t = 2 := hs
    have hg : N.1 36 t = 0 := hg
    simp (decide := true) only [hs, hg, fi_s, fi_id hs, fi_id hg, if_true, if_false]
    unfold aft g_MD_close
    rw [if_pos rfl]
    congr 1
    (simp only [V_0_4, V_25, V_37, V_38, va_up_up, va_up_self, clN ht, mm_rv]) <;> dsimp only [m_tm, m_cn, m_fs, m_wf, m_wg, m_wb, m_gv, m_gz, m_gi, m_cv, m_st, m_sw, m_tv, m_tw, m_rv, m_rw, p_tm, p_cn, p_fs, p_wf, p_wg, p_wb, p_gv, p_gz, p_gi, p_cv, p_st, p_sw, p_tv, p_tw, p_rv, p_rw]
    exact V_rvw1 (funext fun i => match i with | 0 => rfl | 1 => rfl | 2 => rfl | 3 => rfl | 4 => rfl | 5 => rfl | 6 => rfl | 7 => rfl | 8 => rfl | 9 => rfl | 10 => rfl | 11 => rfl | 12 => rfl | 13 => rfl | 14 => rfl | n + 15 => rfl)
  · have hs : N.1 25 t = 2 := hs
    have hg : N.1 36 t = 1 := hg
    simp (decide := true) only [hs, hg, fi_s, fi_id hs, fi_id hg, if_true, if_false]
    unfold aft g_MD_close
    rw [if_pos rfl]
    congr 1
    (simp only [V_0_4, V_25, V_37, V_38, va_up_up, va_up_self, clN ht, mm_rv]) <;> dsimp only [m_tm, m_cn, m_fs, m_wf, m_wg, m_wb, m_gv, m_gz, m_gi, m_cv, m_st, m_sw, m_tv, m_tw, m_rv, m_rw, p_tm, p_cn, p_fs, p_wf, p_wg, p_wb, p_gv, p_gz, p_gi, p_cv, p_st, p_sw, p_tv, p_tw, p_rv, p_rw]
    exact V_rvw1 (funext fun i => match i with | 0 => rfl | 1 => rfl | 2 => rfl | 3 => rfl | 4 => rfl | 5 => rfl | 6 => rfl | 7 => rfl | 8 => rfl | 9 => rfl | 10 => rfl | 11 => rfl | 12 => rfl | 13 => rfl | 14 => rfl | n + 15 => rfl)
  · have hs : N.1 25 t = 3 := hs
    have hg : N.1 36 t = 0 := hg
    simp (decide := true) only [hs, hg, fi_s, fi_id hs, fi_id hg, if_true, if_false]
    exact (aft_0 _ _ rfl rfl).symm
  · have hs : N.1 25 t = 3 := hs
    have hg : N.1 36 t = 1 := hg
    simp (decide := true) only [hs, hg, fi_s, fi_id hs, fi_id hg, if_true, if_false]
    exact (aft_0 _ _ rfl rfl).symm
