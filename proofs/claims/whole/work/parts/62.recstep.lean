/-! records: step 2 -/
def b01 (x : Int32) : Prop := x = 0 ∨ x = 1
/-- what holds of every record -/
abbrev RV (f : Nat → Int32) : Prop := (f 2 = 0 ∨ f 2 = 1 ∨ f 2 = 2 ∨ f 2 = 3) ∧ (f 2 ≠ 2 → f 14 = 0) ∧ (f 2 ≠ 1 → f 13 = 0) ∧ (f 13 ≠ 0 → (f 4 &&& 131072) ≠ 0) ∧ b01 (f 12) ∧ b01 (f 13) ∧ b01 (f 14) ∧ RI f
set_option maxHeartbeats 4000000 in
set_option maxRecDepth 100000 in
theorem RV.st {f : Nat → Int32} (h : RV f) : f 2 = 0 ∨ f 2 = 1 ∨ f 2 = 2 ∨ f 2 = 3 := h.1
set_option maxHeartbeats 4000000 in
set_option maxRecDepth 100000 in
theorem RV.fin {f : Nat → Int32} (h : RV f) : f 2 ≠ 2 → f 14 = 0 := h.2.1
set_option maxHeartbeats 4000000 in
set_option maxRecDepth 100000 in
theorem RV.lack {f : Nat → Int32} (h : RV f) : f 2 ≠ 1 → f 13 = 0 := h.2.2.1
set_option maxHeartbeats 4000000 in
set_option maxRecDepth 100000 in
theorem RV.eof {f : Nat → Int32} (h : RV f) : f 13 ≠ 0 → (f 4 &&& 131072) ≠ 0 := h.2.2.2.1
set_option maxHeartbeats 4000000 in
set_option maxRecDepth 100000 in
theorem RV.got {f : Nat → Int32} (h : RV f) : b01 (f 12) := h.2.2.2.2.1
set_option maxHeartbeats 4000000 in
set_option maxRecDepth 100000 in
theorem RV.lk {f : Nat → Int32} (h : RV f) : b01 (f 13) := h.2.2.2.2.2.1
set_option maxHeartbeats 4000000 in
set_option maxRecDepth 100000 in
theorem RV.fn {f : Nat → Int32} (h : RV f) : b01 (f 14) := h.2.2.2.2.2.2.1
set_option maxHeartbeats 4000000 in
set_option maxRecDepth 100000 in
theorem RV.ri {f : Nat → Int32} (h : RV f) : RI f := h.2.2.2.2.2.2.2
set_option maxHeartbeats 4000000 in
set_option maxRecDepth 100000 in
theorem va_up_up {α : Type} (f : Nat → α) (k : Nat) (x y : α) : va_up (va_up f k x) k y = va_up f k y := by
  funext j; unfold va_up; by_cases h : j = k
  · rw [if_pos h, if_pos h]
  · rw [if_neg h, if_neg h, if_neg h]
set_option maxHeartbeats 4000000 in
set_option maxRecDepth 100000 in
theorem va_up_id {α : Type} (f : Nat → α) (k : Nat) : va_up f k (f k) = f := by
  funext j; unfold va_up; by_cases h : j = k
  · rw [if_pos h, h]
  · rw [if_neg h]
set_option maxHeartbeats 4000000 in
set_option maxRecDepth 100000 in
theorem upd_id {f : Nat → Int32} {k : Nat} {x : Int32} (h : f k = x) : upd f k x = f := by
  funext j; unfold upd; by_cases hj : j = k
  · rw [if_pos hj, hj, h]
  · rw [if_neg hj]
set_option maxHeartbeats 4000000 in
set_option maxRecDepth 100000 in
theorem fi_s {N : fl_M} {c j : Nat} {x : Int32} : (fl_i N c j x).1 c j = x := (congrFun fi_at j).trans pk_us
set_option maxHeartbeats 4000000 in
set_option maxRecDepth 100000 in
theorem fi_n {N : fl_M} {c j c' j' : Nat} {x : Int32} (h : c' ≠ c) : (fl_i N c j x).1 c' j' = N.1 c' j' := congrFun (fi_ne h) j'
set_option maxHeartbeats 4000000 in
set_option maxRecDepth 100000 in
theorem clN {t : Nat} (h : t < 16) : (nI t).toNatClampNeg = t := nI_clamp (by omega)
set_option maxHeartbeats 4000000 in
set_option maxRecDepth 100000 in
theorem bit17 (x : Int32) : ((j_ishr x 17) &&& 1 = 0) ↔ (x &&& 131072 = 0) := ishr_bit x (k := 17) (by decide)
set_option maxHeartbeats 4000000 in
set_option maxRecDepth 100000 in
theorem bit16 (x : Int32) : ((j_ishr x 16) &&& 1 = 0) ↔ (x &&& 65536 = 0) := ishr_bit x (k := 16) (by decide)
set_option maxHeartbeats 4000000 in
set_option maxRecDepth 100000 in
theorem bit18 (x : Int32) : ((j_ishr x 18) &&& 1 = 0) ↔ (x &&& 262144 = 0) := ishr_bit x (k := 18) (by decide)
set_option maxHeartbeats 4000000 in
set_option maxRecDepth 100000 in
theorem fi_0 {N : fl_M} {j j' : Nat} {x : Int32} (h : j' ≠ j) : (fl_i N 0 j x).1 0 j' = N.1 0 j' := (congrFun fi_at j').trans (pk_un h)
set_option maxHeartbeats 4000000 in
set_option maxRecDepth 100000 in
theorem V_rv {v : Vw} {t : Nat} {a b : Nat → Int32} (h : a = b) : ((mkV v.tm v.cn v.fs v.wf v.wg v.wb v.gv v.gz v.gi v.cv v.st v.sw v.tv v.tw (va_up v.rv t a) v.rw) : Vw) = (mkV v.tm v.cn v.fs v.wf v.wg v.wb v.gv v.gz v.gi v.cv v.st v.sw v.tv v.tw (va_up v.rv t b) v.rw) := by rw [h]
set_option maxHeartbeats 4000000 in
set_option maxRecDepth 100000 in
theorem V_rv0 {v : Vw} {t : Nat} {a : Nat → Int32} (h : a = v.rv t) : ((mkV v.tm v.cn v.fs v.wf v.wg v.wb v.gv v.gz v.gi v.cv v.st v.sw v.tv v.tw (va_up v.rv t a) v.rw) : Vw) = v := by rw [h, va_up_id]; rfl
set_option maxHeartbeats 4000000 in
set_option maxRecDepth 100000 in
/-- the class's step has no part in the words -/
theorem sc_w (f w : Nat → Int32) : (g_CR_stepClocks f w).2 = w := by
  unfold g_CR_stepClocks
  by_cases h1 : f 2 = 1
  · rw [if_pos h1]
    show (g_CR_stepOpen f w).2 = w
    unfold g_CR_stepOpen
    split
    · rfl
    · split
      · rfl
      · split
        · split
          · rfl
          · rfl
        · rfl
  · rw [if_neg h1]
    by_cases h2 : f 2 = 2
    · rw [if_pos h2]
      show (g_CR_stepEnding f w).2 = w
      unfold g_CR_stepEnding
      split
      · split
        · rfl
        · rfl
      · rfl
    · rw [if_neg h2]
set_option maxHeartbeats 4000000 in
set_option maxRecDepth 100000 in
theorem sc_v (N : fl_M) (W : Nat → Nat → Int32) {t : Nat} (ht : t < 16) (hr : RV (yR N t)) : V (g_MD_craftClocks N (nI t)) W = (mkV (V N W).tm (V N W).cn (V N W).fs (V N W).wf (V N W).wg (V N W).wb (V N W).gv (V N W).gz (V N W).gi (V N W).cv (V N W).st (V N W).sw (V N W).tv (V N W).tw (va_up (V N W).rv t (g_CR_stepClocks ((V N W).rv t) ((V N W).rw t)).1) (V N W).rw) := by
  have e2 : (V N W).rv t 2 = N.1 25 t := rfl
  have e9 : (V N W).rv t 9 = N.1 35 t := rfl
  have e10 : (V N W).rv t 10 = N.1 34 t := rfl
  have e11 : (V N W).rv t 11 = N.1 33 t := rfl
  have e4 : (V N W).rv t 4 = N.1 27 t := rfl
  have e14 : N.1 25 t ≠ 2 → (V N W).rv t 14 = 0 := hr.fin
  have e13 : N.1 25 t ≠ 1 → (V N W).rv t 13 = 0 := hr.lack
  unfold g_MD_craftClocks g_CR_stepClocks
  rw [clN ht, e2]
  by_cases h1 : N.1 25 t = 1
  · simp only [if_pos h1]
    have e14 := e14 (by rw [h1]; decide)
    unfold g_CR_stepOpen
    simp only [e9, fi_s]
    by_cases h2 : N.1 35 t - 1 = 0
    · simp only [if_pos h2]
      unfold g_MD_close
      (simp only [V_0_4, V_38, V_37, V_25, V_26, V_35, va_up_up, clN ht, va_up_self, mm_rv]) <;> dsimp only [m_tm, m_cn, m_fs, m_wf, m_wg, m_wb, m_gv, m_gz, m_gi, m_cv, m_st, m_sw, m_tv, m_tw, m_rv, m_rw, p_tm, p_cn, p_fs, p_wf, p_wg, p_wb, p_gv, p_gz, p_gi, p_cv, p_st, p_sw, p_tv, p_tw, p_rv, p_rw]
      exact V_rv (funext fun i => match i with | 0 => rfl | 1 => rfl | 2 => rfl | 3 => rfl | 4 => rfl | 5 => rfl | 6 => rfl | 7 => rfl | 8 => rfl | 9 => rfl | 10 => rfl | 11 => rfl | 12 => rfl | 13 => rfl | 14 => rfl | n + 15 => rfl)
    · simp only [if_neg h2]
      have e5 : (g_CR_has (upd ((V N W).rv t) 9 (N.1 35 t - 1)) ((V N W).rw t) 131072 = 0) ↔ (j_ishr (N.1 27 t) 17) &&& 1 = 0 := by
        rw [bit17]
        unfold g_CR_has
        show (if N.1 27 t &&& 131072 = 0 then (0 : Int32) else 1) = 0 ↔ _
        by_cases h : N.1 27 t &&& 131072 = 0
        · rw [if_pos h]; exact ⟨fun _ => h, fun _ => rfl⟩
        · rw [if_neg h]; exact ⟨fun c => absurd c (by decide), fun c => absurd c h⟩
      by_cases h3 : (j_ishr (N.1 27 t) 17) &&& 1 = 0
      · simp only [if_pos h3, if_pos (e5.2 h3)]
        (simp only [V_35, mm_rv]) <;> dsimp only [m_tm, m_cn, m_fs, m_wf, m_wg, m_wb, m_gv, m_gz, m_gi, m_cv, m_st, m_sw, m_tv, m_tw, m_rv, m_rw, p_tm, p_cn, p_fs, p_wf, p_wg, p_wb, p_gv, p_gz, p_gi, p_cv, p_st, p_sw, p_tv, p_tw, p_rv, p_rw]
      · have h3' := fun c => h3 (e5.1 c)
        simp only [if_neg h3, if_neg h3', e10, e11]
        by_cases h4 : N.1 34 t - 1 ≤ 0
        · simp only [if_pos h4]
          by_cases h5 : N.1 33 t = 4
          · simp only [if_pos h5]
            unfold g_MD_finish
            (simp only [V_25, V_26, V_38, V_37, V_34, V_33, V_35, va_up_up, clN ht, va_up_self, mm_rv]) <;> dsimp only [m_tm, m_cn, m_fs, m_wf, m_wg, m_wb, m_gv, m_gz, m_gi, m_cv, m_st, m_sw, m_tv, m_tw, m_rv, m_rw, p_tm, p_cn, p_fs, p_wf, p_wg, p_wb, p_gv, p_gz, p_gi, p_cv, p_st, p_sw, p_tv, p_tw, p_rv, p_rw]
            exact V_rv (funext fun i => match i with | 0 => rfl | 1 => rfl | 2 => rfl | 3 => rfl | 4 => rfl | 5 => rfl | 6 => rfl | 7 => rfl | 8 => rfl | 9 => rfl | 10 => rfl | 11 => rfl | 12 => rfl | 13 => rfl | 14 => rfl | n + 15 => rfl)
          · simp only [if_neg h5]
            (simp only [V_38, V_37, V_34, V_33, V_35, va_up_up, clN ht, va_up_self, mm_rv]) <;> dsimp only [m_tm, m_cn, m_fs, m_wf, m_wg, m_wb, m_gv, m_gz, m_gi, m_cv, m_st, m_sw, m_tv, m_tw, m_rv, m_rw, p_tm, p_cn, p_fs, p_wf, p_wg, p_wb, p_gv, p_gz, p_gi, p_cv, p_st, p_sw, p_tv, p_tw, p_rv, p_rw]
            refine V_rv ?_
            rw [upd_id (show (upd (upd (upd (upd (upd ((V N W).rv t) 9 (N.1 35 t - 1)) 10 (N.1 34 t - 1)) 11 (N.1 33 t + 1)) 10 (3 * N.1 0 1)) 13 1) 14 = 0 from e14)]
            exact (funext fun i => match i with | 0 => rfl | 1 => rfl | 2 => rfl | 3 => rfl | 4 => rfl | 5 => rfl | 6 => rfl | 7 => rfl | 8 => rfl | 9 => rfl | 10 => rfl | 11 => rfl | 12 => rfl | 13 => rfl | 14 => rfl | n + 15 => rfl)
        · simp only [if_neg h4]
          (simp only [V_34, V_35, va_up_up, va_up_self, mm_rv]) <;> dsimp only [m_tm, m_cn, m_fs, m_wf, m_wg, m_wb, m_gv, m_gz, m_gi, m_cv, m_st, m_sw, m_tv, m_tw, m_rv, m_rw, p_tm, p_cn, p_fs, p_wf, p_wg, p_wb, p_gv, p_gz, p_gi, p_cv, p_st, p_sw, p_tv, p_tw, p_rv, p_rw]
  · simp only [if_neg h1]
    have e13 := e13 h1
    by_cases h2 : N.1 25 t = 2
    · simp only [if_pos h2, fi_s]
      unfold g_CR_stepEnding
      simp only [e10, e11]
      by_cases h4 : N.1 34 t - 1 ≤ 0
      · simp only [if_pos h4]
        by_cases h5 : N.1 33 t = 4
        · simp only [if_pos h5]
          unfold g_MD_close
          (simp only [V_0_4, V_38, V_37, V_25, V_34, va_up_up, clN ht, va_up_self, mm_rv]) <;> dsimp only [m_tm, m_cn, m_fs, m_wf, m_wg, m_wb, m_gv, m_gz, m_gi, m_cv, m_st, m_sw, m_tv, m_tw, m_rv, m_rw, p_tm, p_cn, p_fs, p_wf, p_wg, p_wb, p_gv, p_gz, p_gi, p_cv, p_st, p_sw, p_tv, p_tw, p_rv, p_rw]
          exact V_rv (funext fun i => match i with | 0 => rfl | 1 => rfl | 2 => rfl | 3 => rfl | 4 => rfl | 5 => rfl | 6 => rfl | 7 => rfl | 8 => rfl | 9 => rfl | 10 => rfl | 11 => rfl | 12 => rfl | 13 => rfl | 14 => rfl | n + 15 => rfl)
        · simp only [if_neg h5]
          (simp only [V_38, V_37, V_34, V_33, va_up_up, va_up_self, mm_rv]) <;> dsimp only [m_tm, m_cn, m_fs, m_wf, m_wg, m_wb, m_gv, m_gz, m_gi, m_cv, m_st, m_sw, m_tv, m_tw, m_rv, m_rw, p_tm, p_cn, p_fs, p_wf, p_wg, p_wb, p_gv, p_gz, p_gi, p_cv, p_st, p_sw, p_tv, p_tw, p_rv, p_rw]
          refine V_rv ?_
          rw [upd_id (show (upd (upd (upd ((V N W).rv t) 10 (N.1 34 t - 1)) 11 (N.1 33 t + 1)) 10 (3 * N.1 0 1)) 13 = 0 from e13)]
          exact (funext fun i => match i with | 0 => rfl | 1 => rfl | 2 => rfl | 3 => rfl | 4 => rfl | 5 => rfl | 6 => rfl | 7 => rfl | 8 => rfl | 9 => rfl | 10 => rfl | 11 => rfl | 12 => rfl | 13 => rfl | 14 => rfl | n + 15 => rfl)
      · simp only [if_neg h4]
        (simp only [V_34, mm_rv]) <;> dsimp only [m_tm, m_cn, m_fs, m_wf, m_wg, m_wb, m_gv, m_gz, m_gi, m_cv, m_st, m_sw, m_tv, m_tw, m_rv, m_rw, p_tm, p_cn, p_fs, p_wf, p_wg, p_wb, p_gv, p_gz, p_gi, p_cv, p_st, p_sw, p_tv, p_tw, p_rv, p_rw]
    · simp only [if_neg h2]
      exact (V_rv0 rfl).symm
