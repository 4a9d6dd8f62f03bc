/-! transactions: step 5 -/
def TP (f : Nat → Int32) (es : Int32) (w y : Nat → Int32) (live : Prop) : Prop := (∃ n, n ≤ 16 ∧ f 3 = nI n ∧ (∀ k, k < 16 → f 6 &&& ((1 : Int32) <<< (nI k &&& 31)) ≠ 0 → k < n) ∧ ∀ k, k < n → w k = y k) ∧ (¬ live → es = 0) ∧ (live → f 14 = 0 → ((es ≠ 0 ↔ f 6 &&& 131072 = 0) ∧ (es ≠ 0 → 0 < f 8)))
def yw (N : fl_M) (t : Nat) : Nat → Int32 := fun k => N.1 9 (16 * t + k)
/-- of every transaction -/
def TI (N : fl_M) (W : Nat → Nat → Int32) (c : Nat) : Prop := ∀ t, t < 16 → TP ((V N W).tv t) (N.1 19 t) (W t) (yw N t) (t < c)
set_option maxHeartbeats 4000000 in
set_option maxRecDepth 100000 in
theorem V_tv {v : Vw} {t : Nat} {a b : Nat → Int32} (h : a = b) : ((mkV v.tm v.cn v.fs v.wf v.wg v.wb v.gv v.gz v.gi v.cv v.st v.sw (va_up v.tv t a) v.tw v.rv v.rw) : Vw) = (mkV v.tm v.cn v.fs v.wf v.wg v.wb v.gv v.gz v.gi v.cv v.st v.sw (va_up v.tv t b) v.tw v.rv v.rw) := by rw [h]
set_option maxHeartbeats 4000000 in
set_option maxRecDepth 100000 in
theorem V_tv0 {v : Vw} {t : Nat} {a : Nat → Int32} (h : a = v.tv t) : v = (mkV v.tm v.cn v.fs v.wf v.wg v.wb v.gv v.gz v.gi v.cv v.st v.sw (va_up v.tv t a) v.tw v.rv v.rw) := by rw [h, va_up_id]; exact (p_eta v).symm
set_option maxHeartbeats 4000000 in
set_option maxRecDepth 100000 in
theorem tr_w (f w : Nat → Int32) : (g_TR_stepClocks f w).2 = w := by
  unfold g_TR_stepClocks
  split
  · split
    · split
      · split
        · show (g_TR_stepClock f w).2 = w
          unfold g_TR_stepClock
          split
          · split
            · rfl
            · rfl
          · rfl
        · rfl
      · show (g_TR_stepIdle f w).2 = w
        unfold g_TR_stepIdle
        split
        · rfl
        · rfl
    · rfl
  · rfl
set_option maxHeartbeats 4000000 in
set_option maxRecDepth 100000 in
theorem pos_pred {x : Int32} (h : 0 < x) : (x - 1 ≤ 0) ↔ (x - 1 = 0) := by
  obtain ⟨j, hj, rfl⟩ := nI_of (x := x) (fun c => by
    rw [Int32.lt_iff_toInt_lt] at h c
    omega)
  cases j with
  | zero => exact absurd h (by decide)
  | succ j =>
    rw [nI_pred]
    cases j with
    | zero => exact ⟨fun _ => rfl, fun _ => by decide⟩
    | succ j => exact ⟨fun c => absurd c (nI_nle (by omega) (by omega)), fun c => absurd c (nI_ne0 (by omega) (by omega))⟩
set_option maxHeartbeats 4000000 in
set_option maxRecDepth 100000 in
theorem pred_pos {x : Int32} (h : 0 < x) (h1 : ¬ x - 1 ≤ 0) : 0 < x - 1 := by
  rw [Int32.le_iff_toInt_le, Int32.toInt_zero] at h1
  rw [Int32.lt_iff_toInt_lt, Int32.toInt_zero]
  omega
set_option maxHeartbeats 4000000 in
set_option maxRecDepth 100000 in
theorem s_gc (N : fl_M) (W : Nat → Nat → Int32) {t : Nat} (ht : t < 16) {P : Prop} (hP : P) (hp : TP ((V N W).tv t) (N.1 19 t) (W t) (yw N t) P) : V (g_MD_groundClocks N (nI t)) W = (mkV (V N W).tm (V N W).cn (V N W).fs (V N W).wf (V N W).wg (V N W).wb (V N W).gv (V N W).gz (V N W).gi (V N W).cv (V N W).st (V N W).sw (va_up (V N W).tv t (g_TR_stepClocks ((V N W).tv t) ((V N W).tw t)).1) (V N W).tw (V N W).rv (V N W).rw) := by
  have e6 : (V N W).tv t 6 = N.1 15 t := rfl
  have e7 : (V N W).tv t 7 = N.1 20 t := rfl
  have e8 : (V N W).tv t 8 = N.1 21 t := rfl
  have e9 : (V N W).tv t 9 = N.1 22 t := rfl
  have e11 : (V N W).tv t 11 = N.1 17 t := rfl
  have e13 : (V N W).tv t 13 = N.1 18 t := rfl
  have e14 : (V N W).tv t 14 = N.1 13 t := rfl
  have hq := hp.2.2 hP
  rw [e14, e6, e8] at hq
  unfold g_MD_groundClocks g_TR_stepClocks
  rw [clN ht, e14, e13, e11, e6]
  by_cases h1 : N.1 13 t = 0
  · obtain ⟨q1, q2⟩ := hq h1
    simp only [if_pos h1]
    by_cases h2 : N.1 18 t = 0
    · simp only [if_pos h2]
      by_cases h3 : N.1 17 t = 0
      · simp only [if_pos h3]
        by_cases h4 : N.1 19 t = 0
        · have h5 : ¬ N.1 15 t &&& 131072 = 0 := fun c => (q1.2 c) h4
          simp only [if_pos h4, if_neg h5]
          exact V_tv0 rfl
        · have h5 := q1.1 h4
          have h6 := q2 h4
          simp only [if_neg h4, if_pos h5, fi_s]
          unfold g_TR_stepClock
          simp only [e8, e7, pos_pred h6]
          by_cases h7 : N.1 21 t - 1 = 0
          · simp only [if_pos h7]
            by_cases h8 : N.1 20 t = 4
            · simp only [if_pos h8]
              unfold g_MD_end
              (simp only [V_0_4, V_18, V_15, V_14, V_13, V_21, va_up_up, clN ht, va_up_self, mm_tv]) <;> dsimp only [m_tm, m_cn, m_fs, m_wf, m_wg, m_wb, m_gv, m_gz, m_gi, m_cv, m_st, m_sw, m_tv, m_tw, m_rv, m_rw, p_tm, p_cn, p_fs, p_wf, p_wg, p_wb, p_gv, p_gz, p_gi, p_cv, p_st, p_sw, p_tv, p_tw, p_rv, p_rw]
              exact V_tv (funext fun i => match i with | 0 => rfl | 1 => rfl | 2 => rfl | 3 => rfl | 4 => rfl | 5 => rfl | 6 => rfl | 7 => rfl | 8 => rfl | 9 => rfl | 10 => rfl | 11 => rfl | 12 => rfl | 13 => rfl | 14 => rfl | n + 15 => rfl)
            · simp only [if_neg h8]
              unfold g_MD_makeEndDue
              (simp only [V_19, V_15, V_20, V_21, va_up_up, clN ht, va_up_self, mm_tv]) <;> dsimp only [m_tm, m_cn, m_fs, m_wf, m_wg, m_wb, m_gv, m_gz, m_gi, m_cv, m_st, m_sw, m_tv, m_tw, m_rv, m_rw, p_tm, p_cn, p_fs, p_wf, p_wg, p_wb, p_gv, p_gz, p_gi, p_cv, p_st, p_sw, p_tv, p_tw, p_rv, p_rw]
              exact V_tv (funext fun i => match i with | 0 => rfl | 1 => rfl | 2 => rfl | 3 => rfl | 4 => rfl | 5 => rfl | 6 => rfl | 7 => rfl | 8 => rfl | 9 => rfl | 10 => rfl | 11 => rfl | 12 => rfl | 13 => rfl | 14 => rfl | n + 15 => rfl)
          · simp only [if_neg h7]
            (simp only [V_21, mm_tv]) <;> dsimp only [m_tm, m_cn, m_fs, m_wf, m_wg, m_wb, m_gv, m_gz, m_gi, m_cv, m_st, m_sw, m_tv, m_tw, m_rv, m_rw, p_tm, p_cn, p_fs, p_wf, p_wg, p_wb, p_gv, p_gz, p_gi, p_cv, p_st, p_sw, p_tv, p_tw, p_rv, p_rw]
      · simp only [if_neg h3, fi_s]
        unfold g_TR_stepIdle
        simp only [e9]
        by_cases h7 : N.1 22 t - 1 = 0
        · simp only [if_pos h7]
          unfold g_MD_end
          (simp only [V_0_4, V_18, V_15, V_14, V_13, V_22, va_up_up, clN ht, va_up_self, mm_tv]) <;> dsimp only [m_tm, m_cn, m_fs, m_wf, m_wg, m_wb, m_gv, m_gz, m_gi, m_cv, m_st, m_sw, m_tv, m_tw, m_rv, m_rw, p_tm, p_cn, p_fs, p_wf, p_wg, p_wb, p_gv, p_gz, p_gi, p_cv, p_st, p_sw, p_tv, p_tw, p_rv, p_rw]
          exact V_tv (funext fun i => match i with | 0 => rfl | 1 => rfl | 2 => rfl | 3 => rfl | 4 => rfl | 5 => rfl | 6 => rfl | 7 => rfl | 8 => rfl | 9 => rfl | 10 => rfl | 11 => rfl | 12 => rfl | 13 => rfl | 14 => rfl | n + 15 => rfl)
        · simp only [if_neg h7]
          (simp only [V_22, mm_tv]) <;> dsimp only [m_tm, m_cn, m_fs, m_wf, m_wg, m_wb, m_gv, m_gz, m_gi, m_cv, m_st, m_sw, m_tv, m_tw, m_rv, m_rw, p_tm, p_cn, p_fs, p_wf, p_wg, p_wb, p_gv, p_gz, p_gi, p_cv, p_st, p_sw, p_tv, p_tw, p_rv, p_rw]
    · simp only [if_neg h2]
      exact V_tv0 rfl
  · simp only [if_neg h1]
    exact V_tv0 rfl
