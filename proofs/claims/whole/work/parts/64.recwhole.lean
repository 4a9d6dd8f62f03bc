/-! records: the file becomes whole -/
set_option maxHeartbeats 4000000 in
set_option maxRecDepth 100000 in
theorem sum_eq (N : fl_M) (W : Nat → Nat → Int32) {t : Nat} (ht : t < 16) (x2 : Int32) {n : Nat} (hn : n ≤ 16) : ∀ k i s, i + k = 16 → i ≤ n → g_FL_sumBelow_L4 ((V N W).rw t) (nI n) k i s = g_MD_whole_L60 N (nI t) x2 (n - i) i s := by
  intro k
  induction k with
  | zero =>
    intro i s hk hi
    have : n - i = 0 := by omega
    rw [this]
    show (if nI n ≤ nI i then s else s) = s
    split <;> rfl
  | succ k ih =>
    intro i s hk hi
    show (if nI n ≤ nI i then s else g_FL_sumBelow_L4 ((V N W).rw t) (nI n) k (i + 1) (s + (V N W).rw t (nI i).toNatClampNeg)) = _
    by_cases h : n ≤ i
    · rw [if_pos ((nI_leI (by omega) (by omega)).2 h)]
      have : n - i = 0 := by omega
      rw [this]; rfl
    · rw [if_neg (fun c => h ((nI_leI (by omega) (by omega)).1 c)), ih _ _ (by omega) (by omega), nI_clamp (show i < 2 ^ 31 by omega)]
      have e : n - i = (n - (i + 1)) + 1 := by omega
      rw [e]
      show _ = g_MD_whole_L60 N (nI t) x2 (n - (i + 1)) (i + 1) (s + N.1 28 (16 * nI t + nI i).toNatClampNeg)
      rw [ix16 ht (by omega)]
      have e2 : (V N W).rw t i = N.1 28 (16 * t + i) := if_pos (by omega)
      rw [e2]
set_option maxHeartbeats 4000000 in
set_option maxRecDepth 100000 in
theorem sum_eq0 (N : fl_M) (W : Nat → Nat → Int32) {t : Nat} (ht : t < 16) (x2 : Int32) {l : Int32} (hn : nn l) (hl : l.toNatClampNeg ≤ 16) : g_FL_sumBelow ((V N W).rw t) l = g_MD_whole_L60 N (nI t) x2 l.toNatClampNeg 0 0 := by
  have h := sum_eq N W ht x2 hl 16 0 0 rfl (Nat.zero_le _)
  rw [← hn] at h
  exact h
def cpw (w s : Nat → Int32) (i n : Nat) : Nat → Int32 := fun k => if i ≤ k ∧ k < i + n then w k else s k
set_option maxHeartbeats 4000000 in
set_option maxRecDepth 100000 in
theorem cpw_s (w s : Nat → Int32) (i n : Nat) : cpw w (upd s i (w i)) (i + 1) n = cpw w s i (n + 1) := by
  funext k
  unfold cpw upd
  by_cases h : k = i
  · rw [if_neg (by omega), if_pos h, if_pos (by omega), h]
  · by_cases h2 : i + 1 ≤ k ∧ k < i + 1 + n
    · rw [if_pos h2, if_pos (by omega)]
    · rw [if_neg h2, if_neg h, if_neg (by omega)]
set_option maxHeartbeats 4000000 in
set_option maxRecDepth 100000 in
theorem cpw_0 (w s : Nat → Int32) (i : Nat) : cpw w s i 0 = s := by
  funext k
  unfold cpw
  rw [if_neg (by omega)]
set_option maxHeartbeats 4000000 in
set_option maxRecDepth 100000 in
/-- the class keeps a file -/
theorem kp_L {t m : Nat} (ht : t < 16) (hm : m < 4) : ∀ n i (v : Vw), i + n ≤ 16 → v.rv t 6 = nI m → g_CT_keep_L15 (56 + 2 * t) n i (XX v) = XX (mkV v.tm v.cn v.fs v.wf v.wg v.wb v.gv v.gz v.gi v.cv v.st (va_up v.sw m (cpw (v.rw t) (v.sw m) i n)) v.tv v.tw v.rv v.rw) := by
  intro n
  induction n with
  | zero => intro i v _ _; rw [cpw_0, va_up_id]; rfl
  | succ n ih =>
    intro i v hi hv
    show g_CT_keep_L15 (56 + 2 * t) n (i + 1) (fl_i (XX v) (20 + ((XX v).1 (56 + 2 * t) 6).toNatClampNeg) (nI i).toNatClampNeg ((XX v).1 (56 + 2 * t + 1) (nI i).toNatClampNeg)) = _
    rw [X_rv _ ht, X_rw _ ht, hv, nI_clamp (show m < 2 ^ 31 by omega), nI_clamp (show i < 2 ^ 31 by omega), X_i20 _ hm]
    refine (ih (i + 1) _ (by omega) ?_).trans ?_
    · exact hv
    dsimp only [m_tm, m_cn, m_fs, m_wf, m_wg, m_wb, m_gv, m_gz, m_gi, m_cv, m_st, m_sw, m_tv, m_tw, m_rv, m_rw, p_tm, p_cn, p_fs, p_wf, p_wg, p_wb, p_gv, p_gz, p_gi, p_cv, p_st, p_sw, p_tv, p_tw, p_rv, p_rw]
    rw [va_up_up, va_up_self, cpw_s]
set_option maxHeartbeats 4000000 in
set_option maxRecDepth 100000 in
theorem kp_X (v : Vw) {t m n : Nat} (ht : t < 16) (hm : m < 4) (hn : n ≤ 16) (h6 : v.rv t 6 = nI m) (h5 : v.rv t 5 = nI n) : g_CT_keep (56 + 2 * t) (XX v) = XX (mkV v.tm v.cn v.fs v.wf v.wg v.wb v.gv v.gz v.gi v.cv (upd v.st m (nI n)) (va_up v.sw m (cpw (v.rw t) (v.sw m) 0 n)) v.tv v.tw v.rv v.rw) := by
  unfold g_CT_keep
  rw [X_rv _ ht, h6, h5, nI_clamp (show m < 2 ^ 31 by omega), nI_clamp (show n < 2 ^ 31 by omega), X_i18]
  exact kp_L ht hm n 0 _ (by omega) h6
set_option maxHeartbeats 4000000 in
set_option maxRecDepth 100000 in
/-- the reference keeps a file -/
theorem kp_N (N : fl_M) (W : Nat → Nat → Int32) (x2 : Int32) {t m : Nat} (ht : t < 16) (hm : m < 4) (h6 : N.1 30 t = nI m) : ∀ n i (N1 : fl_M), i + n ≤ 16 → V (g_MD_whole_L153 N (nI t) x2 n i N1) W = (mkV (V N1 W).tm (V N1 W).cn (V N1 W).fs (V N1 W).wf (V N1 W).wg (V N1 W).wb (V N1 W).gv (V N1 W).gz (V N1 W).gi (V N1 W).cv (V N1 W).st (va_up (V N1 W).sw m (cpw ((V N1 W).rw t) ((V N1 W).sw m) i n)) (V N1 W).tv (V N1 W).tw (V N1 W).rv (V N1 W).rw) := by
  intro n
  induction n with
  | zero => intro i N1 _; rw [cpw_0, va_up_id]; rfl
  | succ n ih =>
    intro i N1 hi
    show V (g_MD_whole_L153 N (nI t) x2 n (i + 1) (fl_i N1 40 ((16 * N.1 30 (nI t).toNatClampNeg + nI i).toNatClampNeg) (N1.1 28 ((16 * nI t + nI i).toNatClampNeg)))) W = _
    rw [clN ht, h6, ix16 (by omega) (by omega), ix16 ht (by omega), ih _ _ (by omega), V_40 _ _ _ (by omega)]
    have e : N1.1 28 (16 * t + i) = (V N1 W).rw t i := (if_pos (by omega)).symm
    rw [e]
    dsimp only [m_tm, m_cn, m_fs, m_wf, m_wg, m_wb, m_gv, m_gz, m_gi, m_cv, m_st, m_sw, m_tv, m_tw, m_rv, m_rw, p_tm, p_cn, p_fs, p_wf, p_wg, p_wb, p_gv, p_gz, p_gi, p_cv, p_st, p_sw, p_tv, p_tw, p_rv, p_rw]
    rw [va_up_up, va_up_self, cpw_s]
set_option maxHeartbeats 4000000 in
set_option maxRecDepth 100000 in
theorem kp_cell (N : fl_M) (x1 x2 : Int32) {c : Nat} (hc : c ≠ 40) : ∀ n i (N1 : fl_M), (g_MD_whole_L153 N x1 x2 n i N1).1 c = N1.1 c := by
  intro n
  induction n with
  | zero => intro i N1; rfl
  | succ n ih => intro i N1; exact (ih _ _).trans (fi_ne hc)
set_option maxHeartbeats 4000000 in
set_option maxRecDepth 100000 in
/-- the values after a take are those of N -/
theorem wh_v (N : fl_M) (W : Nat → Nat → Int32) {t : Nat} (ht : t < 16) (k : Int32) (hr : RI ((V N W).rv t)) (hl : nn (N.1 31 t)) (h16 : (N.1 31 t).toNatClampNeg ≤ 16) :
    XX (V (g_MD_whole N (nI t) k) W) = (if g_CR_lackingParts ((V N W).rv t) ((V N W).rw t) = 0 then (if (V N W).rv t 5 = (V N W).rv t 7 ∧ g_FL_sumBelow ((V N W).rw t) ((V N W).rv t 7) = (V N W).rv t 8 then g_CT_keep (56 + 2 * t) (XX (mkV (V N W).tm (V N W).cn (V N W).fs (V N W).wf (V N W).wg (V N W).wb (V N W).gv (V N W).gz (V N W).gi (V N W).cv (V N W).st (V N W).sw (V N W).tv (V N W).tw (va_up (V N W).rv t (g_CR_endWith ((V N W).rv t) ((V N W).rw t) 1).1) (V N W).rw)) else XX (mkV (V N W).tm (V N W).cn (V N W).fs (V N W).wf (V N W).wg (V N W).wb (V N W).gv (V N W).gz (V N W).gi (V N W).cv (V N W).st (V N W).sw (V N W).tv (V N W).tw (va_up (V N W).rv t (g_CR_endWith ((V N W).rv t) ((V N W).rw t) 2).1) (V N W).rw)) else (if k = 3 ∧ ((V N W).rv t 4 &&& 131072) ≠ 0 then XX (mkV (V N W).tm (V N W).cn (V N W).fs (V N W).wf (V N W).wg (V N W).wb (V N W).gv (V N W).gz (V N W).gi (V N W).cv (V N W).st (V N W).sw (V N W).tv (V N W).tw (va_up (V N W).rv t (g_CR_askForParts (upd ((V N W).rv t) 11 1) ((V N W).rw t)).1) (V N W).rw) else XX (V N W))) := by
  have e4 : (V N W).rv t 4 = N.1 27 t := rfl
  have e5 : (V N W).rv t 5 = N.1 29 t := rfl
  have e6 : (V N W).rv t 6 = N.1 30 t := rfl
  have e7 : (V N W).rv t 7 = N.1 31 t := rfl
  have e8 : (V N W).rv t 8 = N.1 32 t := rfl
  have es := sum_eq0 N W ht k hl h16
  unfold g_MD_whole
  rw [clN ht, e5, e7, e8, es, e4]
  have lk : (j_ishr (N.1 27 t) 17 &&& 1 = 0 → g_CR_lackingParts ((V N W).rv t) ((V N W).rw t) ≠ 0) ∧ (¬ j_ishr (N.1 27 t) 17 &&& 1 = 0 → g_CR_lackingParts ((V N W).rv t) ((V N W).rw t) = g_MD_lacking N (nI t)) := by
    have hq := lk_eq (N.1 27 t) (n := (N.1 31 t).toNatClampNeg) (by omega)
    rw [← hl] at hq
    unfold g_MD_lacking
    rw [clN ht]
    exact ⟨fun h => hq.1 ((bit17 _).1 h), fun h => hq.2 (fun c => h ((bit17 _).2 c))⟩
  by_cases h0 : j_ishr (N.1 27 t) 17 &&& 1 = 0
  · rw [if_pos h0, if_neg (lk.1 h0), if_neg (fun c => c.2 ((bit17 _).1 h0))]
  · rw [if_neg h0, lk.2 h0]
    by_cases h1 : g_MD_lacking N (nI t) = 0
    · rw [if_pos h1, if_pos h1]
      by_cases h2 : N.1 29 t = N.1 31 t
      · rw [if_pos h2]
        by_cases h3 : g_MD_whole_L60 N (nI t) k (N.1 31 t).toNatClampNeg 0 0 = N.1 32 t
        · rw [if_pos h3, if_pos ⟨h2, h3⟩]
          obtain ⟨m, hm, h6⟩ := vp_in_of hr.1 (by decide)
          have h6 : N.1 30 t = nI m := h6
          have h5 : N.1 31 t = nI (N.1 31 t).toNatClampNeg := hl
          have k6 : ((mkV (V N W).tm (V N W).cn (V N W).fs (V N W).wf (V N W).wg (V N W).wb (V N W).gv (V N W).gz (V N W).gi (V N W).cv (V N W).st (V N W).sw (V N W).tv (V N W).tw (va_up (V N W).rv t (g_CR_endWith ((V N W).rv t) ((V N W).rw t) 1).1) (V N W).rw) : Vw).rv t 6 = nI m := (congrFun (va_up_self (V N W).rv t _) 6).trans h6
          have k5 : ((mkV (V N W).tm (V N W).cn (V N W).fs (V N W).wf (V N W).wg (V N W).wb (V N W).gv (V N W).gz (V N W).gi (V N W).cv (V N W).st (V N W).sw (V N W).tv (V N W).tw (va_up (V N W).rv t (g_CR_endWith ((V N W).rv t) ((V N W).rw t) 1).1) (V N W).rw) : Vw).rv t 5 = nI (N.1 31 t).toNatClampNeg := (congrFun (va_up_self (V N W).rv t _) 5).trans (h2.trans h5)
          rw [kp_X _ ht hm h16 k6 k5]
          congr 1
          unfold g_MD_finish
          rw [clN ht, h6, nI_clamp (show m < 2 ^ 31 by omega), ← h5]
          (simp only [V_25, V_26, V_38, V_37, V_34, V_33, kp_N N W k ht hm h6 _ 0 _ (show 0 + (N.1 31 t).toNatClampNeg ≤ 16 by omega), V_39, va_up_up, va_up_self, kp_cell _ _ _ (show 0 ≠ 40 by decide), fi_n (show 0 ≠ 39 by decide), mm_st, mm_sw, mm_rv, mc_st_sw, mc_st_rv, mc_sw_rv]) <;> dsimp only [m_tm, m_cn, m_fs, m_wf, m_wg, m_wb, m_gv, m_gz, m_gi, m_cv, m_st, m_sw, m_tv, m_tw, m_rv, m_rw, p_tm, p_cn, p_fs, p_wf, p_wg, p_wb, p_gv, p_gz, p_gi, p_cv, p_st, p_sw, p_tv, p_tw, p_rv, p_rw]
          rw [show upd (upd (upd (upd (upd (upd ((V N W).rv t) 2 2) 3 1) 14 1) 13 0) 10 (3 * N.1 0 1)) 11 1 = (g_CR_endWith ((V N W).rv t) ((V N W).rw t) 1).1 from (funext fun i => match i with | 0 => rfl | 1 => rfl | 2 => rfl | 3 => rfl | 4 => rfl | 5 => rfl | 6 => rfl | 7 => rfl | 8 => rfl | 9 => rfl | 10 => rfl | 11 => rfl | 12 => rfl | 13 => rfl | 14 => rfl | n + 15 => rfl)]
        · rw [if_neg h3, if_neg (fun c => h3 c.2)]
          congr 1
          unfold g_MD_finish
          (simp only [V_25, V_26, V_38, V_37, V_34, V_33, va_up_up, clN ht, va_up_self, mm_rv]) <;> dsimp only [m_tm, m_cn, m_fs, m_wf, m_wg, m_wb, m_gv, m_gz, m_gi, m_cv, m_st, m_sw, m_tv, m_tw, m_rv, m_rw, p_tm, p_cn, p_fs, p_wf, p_wg, p_wb, p_gv, p_gz, p_gi, p_cv, p_st, p_sw, p_tv, p_tw, p_rv, p_rw]
          exact V_rv (funext fun i => match i with | 0 => rfl | 1 => rfl | 2 => rfl | 3 => rfl | 4 => rfl | 5 => rfl | 6 => rfl | 7 => rfl | 8 => rfl | 9 => rfl | 10 => rfl | 11 => rfl | 12 => rfl | 13 => rfl | 14 => rfl | n + 15 => rfl)
      · rw [if_neg h2, if_neg (fun c => h2 c.1)]
        congr 1
        unfold g_MD_finish
        (simp only [V_25, V_26, V_38, V_37, V_34, V_33, va_up_up, clN ht, va_up_self, mm_rv]) <;> dsimp only [m_tm, m_cn, m_fs, m_wf, m_wg, m_wb, m_gv, m_gz, m_gi, m_cv, m_st, m_sw, m_tv, m_tw, m_rv, m_rw, p_tm, p_cn, p_fs, p_wf, p_wg, p_wb, p_gv, p_gz, p_gi, p_cv, p_st, p_sw, p_tv, p_tw, p_rv, p_rw]
        exact V_rv (funext fun i => match i with | 0 => rfl | 1 => rfl | 2 => rfl | 3 => rfl | 4 => rfl | 5 => rfl | 6 => rfl | 7 => rfl | 8 => rfl | 9 => rfl | 10 => rfl | 11 => rfl | 12 => rfl | 13 => rfl | 14 => rfl | n + 15 => rfl)
    · rw [if_neg h1, if_neg h1]
      by_cases h2 : k = 3
      · rw [if_pos h2, if_pos ⟨h2, fun c => h0 ((bit17 _).2 c)⟩]
        congr 1
        (simp only [V_37, V_34, V_33, va_up_up, va_up_self, mm_rv]) <;> dsimp only [m_tm, m_cn, m_fs, m_wf, m_wg, m_wb, m_gv, m_gz, m_gi, m_cv, m_st, m_sw, m_tv, m_tw, m_rv, m_rw, p_tm, p_cn, p_fs, p_wf, p_wg, p_wb, p_gv, p_gz, p_gi, p_cv, p_st, p_sw, p_tv, p_tw, p_rv, p_rw]
        exact V_rv (funext fun i => match i with | 0 => rfl | 1 => rfl | 2 => rfl | 3 => rfl | 4 => rfl | 5 => rfl | 6 => rfl | 7 => rfl | 8 => rfl | 9 => rfl | 10 => rfl | 11 => rfl | 12 => rfl | 13 => rfl | 14 => rfl | n + 15 => rfl)
      · rw [if_neg h2, if_neg (fun c => h2 c.1)]
