/-! transactions: a PDU is heard -/
def yGp (M : fl_M) (kd tt ma : Int32) : fl_M :=
  if kd < 1 then (M) else (if 3 < kd then (M) else (if tt < (M.1 0 13) then (if kd = 1 then (if (M.1 13 (tt.toNatClampNeg)) = 0 then ((fl_i (fl_i M 22 (tt.toNatClampNeg) (12 * (M.1 0 1))) 17 (tt.toNatClampNeg) 1)) else ((fl_i M 22 (tt.toNatClampNeg) (12 * (M.1 0 1))))) else (if kd = 2 then (if (M.1 13 (tt.toNatClampNeg)) = 0 then (if (M.1 16 (tt.toNatClampNeg)) = 0 then ((fl_i (fl_i M 22 (tt.toNatClampNeg) (12 * (M.1 0 1))) 15 (tt.toNatClampNeg) ((M.1 15 (tt.toNatClampNeg)) ||| (ma &&& (((1 <<< ((M.1 10 (tt.toNatClampNeg)) &&& 31)) - 1) ||| 65536))))) else ((fl_i M 22 (tt.toNatClampNeg) (12 * (M.1 0 1))))) else ((fl_i M 22 (tt.toNatClampNeg) (12 * (M.1 0 1))))) else (if kd = 3 then (if (M.1 13 (tt.toNatClampNeg)) = 0 then ((g_MD_end (fl_i (fl_i M 22 (tt.toNatClampNeg) (12 * (M.1 0 1))) 15 (tt.toNatClampNeg) ((M.1 15 (tt.toNatClampNeg)) ||| 262144)) tt ma)) else ((fl_i (fl_i M 22 (tt.toNatClampNeg) (12 * (M.1 0 1))) 15 (tt.toNatClampNeg) ((M.1 15 (tt.toNatClampNeg)) ||| 262144)))) else ((fl_i M 22 (tt.toNatClampNeg) (12 * (M.1 0 1))))))) else (M)))
set_option maxHeartbeats 4000000 in
set_option maxRecDepth 100000 in
theorem yGp_eq (M : fl_M) (x1 : Int64) : g_MD_groundPdu M x1 = yGp M (((j_lshr x1 8) &&& 15).toInt32) (((j_lshr x1 12) &&& 15).toInt32) (((j_lshr x1 16) &&& 16777215).toInt32) := rfl
set_option maxHeartbeats 4000000 in
set_option maxRecDepth 100000 in
theorem trh_w (f w : Nat → Int32) (k m : Int32) : (g_TR_hear f w k m).2 = w := by
  have hu : ∀ f' : Nat → Int32, (g_TR_hearUnderWay f' w k m).2 = w := by
    intro f'
    unfold g_TR_hearUnderWay
    split
    · rfl
    · split
      · rfl
      · split
        · rfl
        · rfl
  unfold g_TR_hear
  split
  · rfl
  · split
    · split
      · split
        · exact hu _
        · exact hu _
      · split
        · rfl
        · rfl
    · rfl
set_option maxHeartbeats 4000000 in
set_option maxRecDepth 100000 in
theorem wb_k : ∀ n, n < 17 → ∀ k, k < 16 → g_FL_wordsBelow (nI n) &&& ((1 : Int32) <<< (nI k &&& 31)) ≠ 0 → k < n := by decide +kernel
set_option maxHeartbeats 4000000 in
set_option maxRecDepth 100000 in
theorem wb_e : ∀ n, n < 17 → (65536 ||| g_FL_wordsBelow (nI n)) &&& 131072 = 0 := by decide +kernel
set_option maxHeartbeats 4000000 in
set_option maxRecDepth 100000 in
theorem or_0 {a b : Int32} (h : a ||| b ≠ 0) : a ≠ 0 ∨ b ≠ 0 := by
  by_cases ha : a = 0
  · right; intro hb; rw [ha, hb] at h; exact h (by decide)
  · exact Or.inl ha
set_option maxHeartbeats 4000000 in
set_option maxRecDepth 100000 in
theorem tp_lack {f w y : Nat → Int32} {es : Int32} {P : Prop} (m : Int32) (h : TP f es w y P) : TP (upd f 6 (f 6 ||| (m &&& (65536 ||| g_FL_wordsBelow (f 3))))) es w y P := by
  obtain ⟨⟨n, h1, h2, h3, h4⟩, h5, h6⟩ := h
  have ee : (f 6 ||| (m &&& (65536 ||| g_FL_wordsBelow (f 3)))) &&& 131072 = f 6 &&& 131072 := by
    rw [i_orr, Int32.and_assoc, h2, wb_e n (by omega), Int32.and_zero, Int32.or_zero]
  refine ⟨⟨n, h1, h2, fun k hk hb => ?_, h4⟩, h5, fun a b => ?_⟩
  · have hb : (f 6 ||| (m &&& (65536 ||| g_FL_wordsBelow (f 3)))) &&& ((1 : Int32) <<< (nI k &&& 31)) ≠ 0 := hb
    rw [i_orr] at hb
    rcases or_0 hb with hb | hb
    · exact h3 k hk hb
    · rw [Int32.and_assoc, i_orr, (bk_lo k hk).2.2, Int32.zero_or, h2] at hb
      refine wb_k n (by omega) k hk (fun c => hb ?_)
      rw [c, Int32.and_zero]
  · show (es ≠ 0 ↔ (f 6 ||| (m &&& (65536 ||| g_FL_wordsBelow (f 3)))) &&& 131072 = 0) ∧ _
    rw [ee]
    exact h6 a b
set_option maxHeartbeats 4000000 in
set_option maxRecDepth 100000 in
theorem bk_d (d : Int32) {k : Nat} (hk : k < 16) : (d ||| 262144) &&& ((1 : Int32) <<< (nI k &&& 31)) = d &&& ((1 : Int32) <<< (nI k &&& 31)) := by
  rw [i_orr, (bk_lo k hk).1, Int32.or_zero]
set_option maxHeartbeats 4000000 in
set_option maxRecDepth 100000 in
theorem tp_done {f w y : Nat → Int32} {es : Int32} {P : Prop} (h : TP f es w y P) : TP (upd f 6 (f 6 ||| 262144)) es w y P := by
  obtain ⟨⟨n, h1, h2, h3, h4⟩, h5, h6⟩ := h
  have ee : (f 6 ||| 262144) &&& 131072 = f 6 &&& 131072 := by
    rw [i_orr, show (262144 : Int32) &&& 131072 = 0 by decide, Int32.or_zero]
  refine ⟨⟨n, h1, h2, fun k hk hb => ?_, h4⟩, h5, fun a b => ?_⟩
  · have hb : (f 6 ||| 262144) &&& ((1 : Int32) <<< (nI k &&& 31)) ≠ 0 := hb
    rw [bk_d _ hk] at hb
    exact h3 k hk hb
  · show (es ≠ 0 ↔ (f 6 ||| 262144) &&& 131072 = 0) ∧ _
    rw [ee]
    exact h6 a b
set_option maxHeartbeats 4000000 in
set_option maxRecDepth 100000 in
theorem tp_trh {f w y : Nat → Int32} {es : Int32} {P : Prop} (hP : P) (k m : Int32) (h : TP f es w y P) : TP (g_TR_hear f w k m).1 es w y P := by
  have h9 : TP (upd f 9 (12 * f 1)) es w y P := tp_u (by decide) (by decide) (by decide) (by decide) h
  have hu : TP (g_TR_hearUnderWay (upd f 9 (12 * f 1)) w k m).1 es w y P := by
    unfold g_TR_hearUnderWay
    split
    · exact tp_u (by decide) (by decide) (by decide) (by decide) h9
    · split
      · exact tp_end hP m h9
      · split
        · exact tp_lack m h9
        · exact h9
  unfold g_TR_hear
  split
  · exact h
  · split
    · split
      · split
        · exact tp_done hu
        · exact hu
      · split
        · exact tp_done h9
        · exact h9
    · exact h
set_option maxHeartbeats 4000000 in
set_option maxRecDepth 100000 in
theorem d_18 (d : Int32) : (d ||| 262144) &&& 262144 = (d &&& 262144) ||| 262144 := by
  rw [i_orr, Int32.and_self]
set_option maxHeartbeats 4000000 in
set_option maxRecDepth 100000 in
theorem k_c3 : ∀ k, k < 16 → (nI k < 1 ∨ 3 < nI k) ∨ k = 1 ∨ k = 2 ∨ k = 3 := by decide +kernel
set_option maxHeartbeats 4000000 in
set_option maxRecDepth 100000 in
theorem gp_v (N : fl_M) (W : Nat → Nat → Int32) {t k : Nat} (ht : t < 16) (hk : k < 16) (m : Int32) (hc : nI t < N.1 0 13) : V (yGp N (nI k) (nI t) m) W = (mkV (V N W).tm (V N W).cn (V N W).fs (V N W).wf (V N W).wg (V N W).wb (V N W).gv (V N W).gz (V N W).gi (V N W).cv (V N W).st (V N W).sw (va_up (V N W).tv t (g_TR_hear ((V N W).tv t) ((V N W).tw t) (nI k) m).1) (V N W).tw (V N W).rv (V N W).rw) ∧ Fr N (yGp N (nI k) (nI t) m) ∧ (yGp N (nI k) (nI t) m).1 19 = N.1 19 ∧ ∀ j, j ≠ 4 → (yGp N (nI k) (nI t) m).1 0 j = N.1 0 j := by
  have e1 : (V N W).tv t 1 = N.1 0 1 := rfl
  have e3 : (V N W).tv t 3 = N.1 10 t := rfl
  have e6 : (V N W).tv t 6 = N.1 15 t := rfl
  have e12 : (V N W).tv t 12 = N.1 16 t := rfl
  have e14 : (V N W).tv t 14 = N.1 13 t := rfl
  unfold yGp
  rw [clN ht, if_pos hc]
  rcases k_c3 k hk with h | rfl | rfl | rfl
  · have a : g_TR_hear ((V N W).tv t) ((V N W).tw t) (nI k) m = ((V N W).tv t, (V N W).tw t) := by
      unfold g_TR_hear
      rcases h with h | h
      · rw [if_pos h]
      · by_cases h1 : nI k < 1
        · rw [if_pos h1]
        · rw [if_neg h1, if_neg (fun c => by rw [Int32.lt_iff_toInt_lt] at h; rw [Int32.le_iff_toInt_le] at c; omega)]
    have b : ∀ A : fl_M, (if nI k < 1 then N else (if 3 < nI k then N else A)) = N := by
      intro A
      rcases h with h | h
      · rw [if_pos h]
      · by_cases h1 : nI k < 1
        · rw [if_pos h1]
        · rw [if_neg h1, if_pos h]
    rw [b, a]
    exact ⟨V_tv0 rfl, Fr.r N, rfl, fun _ _ => rfl⟩
  · unfold g_TR_hear g_TR_hearUnderWay
    rw [e14, show nI 1 = 1 from rfl]
    by_cases h1 : N.1 13 t = 0
    · simp (decide := true) only [h1, if_true, if_false]
      refine ⟨?_, ⟨rfl, rfl, rfl⟩, rfl, fun _ _ => rfl⟩
      (simp only [V_22, V_17, va_up_up, va_up_self, mm_tv]) <;> dsimp only [m_tm, m_cn, m_fs, m_wf, m_wg, m_wb, m_gv, m_gz, m_gi, m_cv, m_st, m_sw, m_tv, m_tw, m_rv, m_rw, p_tm, p_cn, p_fs, p_wf, p_wg, p_wb, p_gv, p_gz, p_gi, p_cv, p_st, p_sw, p_tv, p_tw, p_rv, p_rw]
      exact V_tv (funext fun i => match i with | 0 => rfl | 1 => rfl | 2 => rfl | 3 => rfl | 4 => rfl | 5 => rfl | 6 => rfl | 7 => rfl | 8 => rfl | 9 => rfl | 10 => rfl | 11 => rfl | 12 => rfl | 13 => rfl | 14 => rfl | n + 15 => rfl)
    · simp (decide := true) only [h1, if_true, if_false]
      refine ⟨?_, ⟨rfl, rfl, rfl⟩, rfl, fun _ _ => rfl⟩
      (simp only [V_22, mm_tv]) <;> dsimp only [m_tm, m_cn, m_fs, m_wf, m_wg, m_wb, m_gv, m_gz, m_gi, m_cv, m_st, m_sw, m_tv, m_tw, m_rv, m_rw, p_tm, p_cn, p_fs, p_wf, p_wg, p_wb, p_gv, p_gz, p_gi, p_cv, p_st, p_sw, p_tv, p_tw, p_rv, p_rw]
      exact V_tv (funext fun i => match i with | 0 => rfl | 1 => rfl | 2 => rfl | 3 => rfl | 4 => rfl | 5 => rfl | 6 => rfl | 7 => rfl | 8 => rfl | 9 => rfl | 10 => rfl | 11 => rfl | 12 => rfl | 13 => rfl | 14 => rfl | n + 15 => rfl)
  · unfold g_TR_hear g_TR_hearUnderWay
    rw [e14, show nI 2 = 2 from rfl, show upd ((V N W).tv t) 9 (12 * (V N W).tv t 1) 12 = N.1 16 t from rfl]
    by_cases h1 : N.1 13 t = 0
    · by_cases h2 : N.1 16 t = 0
      · simp (decide := true) only [h1, h2, if_true, if_false]
        refine ⟨?_, ⟨rfl, rfl, rfl⟩, rfl, fun _ _ => rfl⟩
        (simp only [V_22, V_15, va_up_up, va_up_self, mm_tv]) <;> dsimp only [m_tm, m_cn, m_fs, m_wf, m_wg, m_wb, m_gv, m_gz, m_gi, m_cv, m_st, m_sw, m_tv, m_tw, m_rv, m_rw, p_tm, p_cn, p_fs, p_wf, p_wg, p_wb, p_gv, p_gz, p_gi, p_cv, p_st, p_sw, p_tv, p_tw, p_rv, p_rw]
        rw [show ((1 : Int32) <<< (N.1 10 t &&& 31) - 1 ||| 65536) = 65536 ||| g_FL_wordsBelow (N.1 10 t) from Int32.or_comm _ _]
        exact V_tv (funext fun i => match i with | 0 => rfl | 1 => rfl | 2 => rfl | 3 => rfl | 4 => rfl | 5 => rfl | 6 => rfl | 7 => rfl | 8 => rfl | 9 => rfl | 10 => rfl | 11 => rfl | 12 => rfl | 13 => rfl | 14 => rfl | n + 15 => rfl)
      · simp (decide := true) only [h1, h2, if_true, if_false]
        refine ⟨?_, ⟨rfl, rfl, rfl⟩, rfl, fun _ _ => rfl⟩
        (simp only [V_22, mm_tv]) <;> dsimp only [m_tm, m_cn, m_fs, m_wf, m_wg, m_wb, m_gv, m_gz, m_gi, m_cv, m_st, m_sw, m_tv, m_tw, m_rv, m_rw, p_tm, p_cn, p_fs, p_wf, p_wg, p_wb, p_gv, p_gz, p_gi, p_cv, p_st, p_sw, p_tv, p_tw, p_rv, p_rw]
        exact V_tv (funext fun i => match i with | 0 => rfl | 1 => rfl | 2 => rfl | 3 => rfl | 4 => rfl | 5 => rfl | 6 => rfl | 7 => rfl | 8 => rfl | 9 => rfl | 10 => rfl | 11 => rfl | 12 => rfl | 13 => rfl | 14 => rfl | n + 15 => rfl)
    · simp (decide := true) only [h1, if_true, if_false]
      refine ⟨?_, ⟨rfl, rfl, rfl⟩, rfl, fun _ _ => rfl⟩
      (simp only [V_22, mm_tv]) <;> dsimp only [m_tm, m_cn, m_fs, m_wf, m_wg, m_wb, m_gv, m_gz, m_gi, m_cv, m_st, m_sw, m_tv, m_tw, m_rv, m_rw, p_tm, p_cn, p_fs, p_wf, p_wg, p_wb, p_gv, p_gz, p_gi, p_cv, p_st, p_sw, p_tv, p_tw, p_rv, p_rw]
      exact V_tv (funext fun i => match i with | 0 => rfl | 1 => rfl | 2 => rfl | 3 => rfl | 4 => rfl | 5 => rfl | 6 => rfl | 7 => rfl | 8 => rfl | 9 => rfl | 10 => rfl | 11 => rfl | 12 => rfl | 13 => rfl | 14 => rfl | n + 15 => rfl)
  · unfold g_TR_hear g_TR_hearUnderWay
    rw [e14, show nI 3 = 3 from rfl]
    by_cases h1 : N.1 13 t = 0
    · simp (decide := true) only [h1, if_true, if_false]
      refine ⟨?_, ⟨rfl, rfl, rfl⟩, rfl, fun j hj => fi_0 hj⟩
      unfold g_MD_end
      (simp only [V_0_4, V_18, V_15, V_14, V_13, V_22, va_up_up, clN ht, va_up_self, fi_s, mm_tv]) <;> dsimp only [m_tm, m_cn, m_fs, m_wf, m_wg, m_wb, m_gv, m_gz, m_gi, m_cv, m_st, m_sw, m_tv, m_tw, m_rv, m_rw, p_tm, p_cn, p_fs, p_wf, p_wg, p_wb, p_gv, p_gz, p_gi, p_cv, p_st, p_sw, p_tv, p_tw, p_rv, p_rw]
      rw [d_18]
      exact V_tv (funext fun i => match i with | 0 => rfl | 1 => rfl | 2 => rfl | 3 => rfl | 4 => rfl | 5 => rfl | 6 => rfl | 7 => rfl | 8 => rfl | 9 => rfl | 10 => rfl | 11 => rfl | 12 => rfl | 13 => rfl | 14 => rfl | n + 15 => rfl)
    · simp (decide := true) only [h1, if_true, if_false]
      refine ⟨?_, ⟨rfl, rfl, rfl⟩, rfl, fun _ _ => rfl⟩
      (simp only [V_22, V_15, va_up_up, va_up_self, mm_tv]) <;> dsimp only [m_tm, m_cn, m_fs, m_wf, m_wg, m_wb, m_gv, m_gz, m_gi, m_cv, m_st, m_sw, m_tv, m_tw, m_rv, m_rw, p_tm, p_cn, p_fs, p_wf, p_wg, p_wb, p_gv, p_gz, p_gi, p_cv, p_st, p_sw, p_tv, p_tw, p_rv, p_rw]
      exact V_tv (funext fun i => match i with | 0 => rfl | 1 => rfl | 2 => rfl | 3 => rfl | 4 => rfl | 5 => rfl | 6 => rfl | 7 => rfl | 8 => rfl | 9 => rfl | 10 => rfl | 11 => rfl | 12 => rfl | 13 => rfl | 14 => rfl | n + 15 => rfl)
