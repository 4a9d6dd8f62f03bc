/-! records: a PDU is heard -/
set_option maxHeartbeats 4000000 in
set_option maxRecDepth 100000 in
theorem fi_id {N : fl_M} {c j : Nat} {x : Int32} (h : N.1 c j = x) : fl_i N c j x = N := by
  refine Prod.ext (funext fun q => ?_) rfl
  by_cases hq : q = c
  · subst hq; rw [fi_at]; exact upd_id h
  · exact fi_ne hq
set_option maxHeartbeats 4000000 in
set_option maxRecDepth 100000 in
theorem aft_rv (v : Vw) (t : Nat) (a : Nat → Int32) (T : T3) : aft (mkV v.tm v.cn v.fs v.wf v.wg v.wb v.gv v.gz v.gi v.cv v.st v.sw v.tv v.tw (va_up v.rv t a) v.rw) t T = aft v t T := by
  unfold aft
  dsimp only [m_tm, m_cn, m_fs, m_wf, m_wg, m_wb, m_gv, m_gz, m_gi, m_cv, m_st, m_sw, m_tv, m_tw, m_rv, m_rw, p_tm, p_cn, p_fs, p_wf, p_wg, p_wb, p_gv, p_gz, p_gi, p_cv, p_st, p_sw, p_tv, p_tw, p_rv, p_rw]
  rw [va_up_up]
set_option maxHeartbeats 4000000 in
set_option maxRecDepth 100000 in
theorem aft_0 (v : Vw) (t : Nat) {f w : Nat → Int32} (hf : f = v.rv t) (hw : w = v.rw t) : aft v t (0, f, w) = XX v := by
  unfold aft
  rw [if_pos rfl, hf, hw, va_up_id, va_up_id]
  exact congrArg XX (p_eta v)
/-- a record's length of EOF -/
def L7 (f : Nat → Int32) : Prop := nn (f 7) ∧ (f 7).toNatClampNeg ≤ 16
set_option maxHeartbeats 4000000 in
set_option maxRecDepth 100000 in
theorem l7_u {f : Nat → Int32} {k : Nat} {v : Int32} (h7 : k ≠ 7) (h : L7 f) : L7 (upd f k v) := by
  unfold L7; rw [pk_un (Ne.symm h7)]; exact h
set_option maxHeartbeats 4000000 in
set_option maxRecDepth 100000 in
theorem l7_m {f w : Nat → Int32} {p x : Int32} (h : L7 f) : L7 (g_CR_takeMetadata f w p x).2.1 := by
  unfold g_CR_takeMetadata
  split
  · split
    · exact h
    · split
      · exact h
      · exact l7_u (by decide) (l7_u (by decide) (l7_u (by decide) (l7_u (by decide) h)))
  · exact h
set_option maxHeartbeats 4000000 in
set_option maxRecDepth 100000 in
theorem l7_d {f w : Nat → Int32} {p x : Int32} (h : L7 f) : L7 (g_CR_takeData f w p x).2.1 := by
  unfold g_CR_takeData
  split
  · exact h
  · split
    · exact l7_u (by decide) (l7_u (by decide) h)
    · exact h
set_option maxHeartbeats 4000000 in
set_option maxRecDepth 100000 in
theorem l7_e {f w : Nat → Int32} {p : Nat} {x : Int32} (hp : p < 256) (h : L7 f) : L7 (g_CR_takeEof f w (nI p) x).2.1 := by
  unfold g_CR_takeEof
  split
  · split
    · rename_i h2
      refine ⟨nn_nI (show p < 2 ^ 31 by omega), ?_⟩
      show (nI p).toNatClampNeg ≤ 16
      rw [nI_clamp (by omega)]
      exact (nI_leI (b := 16) (by omega) (by omega)).1 h2
    · exact h
  · exact h
set_option maxHeartbeats 4000000 in
set_option maxRecDepth 100000 in
theorem eof_t {f w : Nat → Int32} {p x : Int32} (h : ¬ (g_CR_takeEof f w p x).1 = 0) : (g_CR_takeEof f w p x).2.1 4 &&& 131072 ≠ 0 := by
  revert h
  unfold g_CR_takeEof
  split
  · split
    · intro _
      show (f 4 ||| 131072) &&& 131072 ≠ 0
      rw [i_orr, Int32.and_self]
      intro c
      have := congrArg (fun z => z &&& 131072) c
      rw [i_orr, Int32.and_self, Int32.and_assoc, Int32.and_self, Int32.zero_and] at this
      have e17 : ((1 : Int32) <<< (nI 17 &&& 31)) = 131072 := by decide
      rcases i_bit (x := f 4) (k := 17) (by decide) with ⟨a, _⟩ | ⟨a, _⟩
      · rw [e17] at a; rw [a] at c; exact absurd c (by decide)
      · rw [e17] at a; rw [a] at c; exact absurd c (by decide)
    · intro h; exact absurd rfl h
  · intro h; exact absurd rfl h
set_option maxHeartbeats 4000000 in
set_option maxRecDepth 100000 in
theorem ho_4 (f w : Nat → Int32) (p x : Int32) : g_CR_hearOpen f w 4 p x = (0, (g_CR_endWith (upd f 9 (12 * f 0)) w 5).1, w) := by
  unfold g_CR_hearOpen
  exact if_pos (show (4 : Int32) = 4 from rfl)
set_option maxHeartbeats 4000000 in
set_option maxRecDepth 100000 in
theorem V35 (N : fl_M) (W : Nat → Nat → Int32) {t : Nat} : V (fl_i N 35 t (12 * N.1 0 1)) W = (mkV (V N W).tm (V N W).cn (V N W).fs (V N W).wf (V N W).wg (V N W).wb (V N W).gv (V N W).gz (V N W).gi (V N W).cv (V N W).st (V N W).sw (V N W).tv (V N W).tw (va_up (V N W).rv t (upd ((V N W).rv t) 9 (12 * (V N W).rv t 0))) (V N W).rw) := V_35 N W t _
set_option maxHeartbeats 4000000 in
set_option maxRecDepth 100000 in
theorem op_1 (N : fl_M) (W : Nat → Nat → Int32) {t p : Nat} (ht : t < 16) (hp : p < 256) (x : Int32) (hr : RI ((V N W).rv t)) (hl : L7 ((V N W).rv t)) : XX (V (if (g_MD_takes (fl_i N 35 t (12 * N.1 0 1)) (nI t) 1 (nI p) x).1 = 0 then (g_MD_takes (fl_i N 35 t (12 * N.1 0 1)) (nI t) 1 (nI p) x).2 else g_MD_whole (g_MD_takes (fl_i N 35 t (12 * N.1 0 1)) (nI t) 1 (nI p) x).2 (nI t) 1) W) = aft (V N W) t (g_CR_hearOpen ((V N W).rv t) ((V N W).rw t) 1 (nI p) x) := by
  have hk := tk_1 (fl_i N 35 t (12 * N.1 0 1)) W ht (nI p) x
  have e := V35 N W (t := t)
  have er : (V (fl_i N 35 t (12 * N.1 0 1)) W).rv t = upd ((V N W).rv t) 9 (12 * (V N W).rv t 0) := by rw [e]; exact va_up_self _ _ _
  have ew : (V (fl_i N 35 t (12 * N.1 0 1)) W).rw t = (V N W).rw t := by rw [e]; rfl
  have hr' := ri_u (k := 9) (v := 12 * (V N W).rv t 0) (by decide) (by decide) hr
  have hl' := l7_u (k := 9) (v := 12 * (V N W).rv t 0) (by decide) hl
  rw [ho_1, ← aft_rv (V N W) t (upd ((V N W).rv t) 9 (12 * (V N W).rv t 0)), ← e, ← er, ← ew]
  rw [← er] at hr' hl'
  exact ho_v _ W ht 1 _ _ hk.1 hk.2 (ri_m (nI_pos (by omega)) hr') (l7_m hl').1 (l7_m hl').2 (fun c => absurd c (by decide))
set_option maxHeartbeats 4000000 in
set_option maxRecDepth 100000 in
theorem op_2 (N : fl_M) (W : Nat → Nat → Int32) {t p : Nat} (ht : t < 16) (hp : p < 256) (x : Int32) (hr : RI ((V N W).rv t)) (hl : L7 ((V N W).rv t)) : XX (V (if (g_MD_takes (fl_i N 35 t (12 * N.1 0 1)) (nI t) 2 (nI p) x).1 = 0 then (g_MD_takes (fl_i N 35 t (12 * N.1 0 1)) (nI t) 2 (nI p) x).2 else g_MD_whole (g_MD_takes (fl_i N 35 t (12 * N.1 0 1)) (nI t) 2 (nI p) x).2 (nI t) 2) W) = aft (V N W) t (g_CR_hearOpen ((V N W).rv t) ((V N W).rw t) 2 (nI p) x) := by
  have hk := tk_2 (fl_i N 35 t (12 * N.1 0 1)) W ht hp x
  have e := V35 N W (t := t)
  have er : (V (fl_i N 35 t (12 * N.1 0 1)) W).rv t = upd ((V N W).rv t) 9 (12 * (V N W).rv t 0) := by rw [e]; exact va_up_self _ _ _
  have ew : (V (fl_i N 35 t (12 * N.1 0 1)) W).rw t = (V N W).rw t := by rw [e]; rfl
  have hr' := ri_u (k := 9) (v := 12 * (V N W).rv t 0) (by decide) (by decide) hr
  have hl' := l7_u (k := 9) (v := 12 * (V N W).rv t 0) (by decide) hl
  rw [ho_2, ← aft_rv (V N W) t (upd ((V N W).rv t) 9 (12 * (V N W).rv t 0)), ← e, ← er, ← ew]
  rw [← er] at hr' hl'
  exact ho_v _ W ht 2 _ _ hk.1 hk.2 (ri_d hr') (l7_d hl').1 (l7_d hl').2 (fun c => absurd c (by decide))
set_option maxHeartbeats 4000000 in
set_option maxRecDepth 100000 in
theorem op_3 (N : fl_M) (W : Nat → Nat → Int32) {t p : Nat} (ht : t < 16) (hp : p < 256) (x : Int32) (hr : RI ((V N W).rv t)) (hl : L7 ((V N W).rv t)) : XX (V (if (g_MD_takes (fl_i N 35 t (12 * N.1 0 1)) (nI t) 3 (nI p) x).1 = 0 then (g_MD_takes (fl_i N 35 t (12 * N.1 0 1)) (nI t) 3 (nI p) x).2 else g_MD_whole (g_MD_takes (fl_i N 35 t (12 * N.1 0 1)) (nI t) 3 (nI p) x).2 (nI t) 3) W) = aft (V N W) t (g_CR_hearOpen ((V N W).rv t) ((V N W).rw t) 3 (nI p) x) := by
  have hk := tk_3 (fl_i N 35 t (12 * N.1 0 1)) W ht (nI p) x
  have e := V35 N W (t := t)
  have er : (V (fl_i N 35 t (12 * N.1 0 1)) W).rv t = upd ((V N W).rv t) 9 (12 * (V N W).rv t 0) := by rw [e]; exact va_up_self _ _ _
  have ew : (V (fl_i N 35 t (12 * N.1 0 1)) W).rw t = (V N W).rw t := by rw [e]; rfl
  have hr' := ri_u (k := 9) (v := 12 * (V N W).rv t 0) (by decide) (by decide) hr
  have hl' := l7_u (k := 9) (v := 12 * (V N W).rv t 0) (by decide) hl
  rw [ho_3, ← aft_rv (V N W) t (upd ((V N W).rv t) 9 (12 * (V N W).rv t 0)), ← e, ← er, ← ew]
  rw [← er] at hr' hl'
  exact ho_v _ W ht 3 _ _ hk.1 hk.2 (ri_e hr') (l7_e hp hl').1 (l7_e hp hl').2 (fun _ h => eof_t h)
set_option maxHeartbeats 4000000 in
set_option maxRecDepth 100000 in
theorem op_4 (N : fl_M) (W : Nat → Nat → Int32) {t p : Nat} (ht : t < 16) (hp : p < 256) (x : Int32) (hr : RI ((V N W).rv t)) (hl : L7 ((V N W).rv t)) : XX (V (g_MD_finish (fl_i N 35 t (12 * N.1 0 1)) (nI t) 5) W) = aft (V N W) t (g_CR_hearOpen ((V N W).rv t) ((V N W).rw t) 4 (nI p) x) := by
  rw [ho_4]
  unfold aft
  rw [if_pos rfl]
  congr 1
  unfold g_MD_finish
  (simp only [V_25, V_26, V_38, V_37, V_34, V_33, V_35, va_up_up, clN ht, va_up_self, fi_n (show 0 ≠ 35 by decide), mm_rv]) <;> dsimp only [m_tm, m_cn, m_fs, m_wf, m_wg, m_wb, m_gv, m_gz, m_gi, m_cv, m_st, m_sw, m_tv, m_tw, m_rv, m_rw, p_tm, p_cn, p_fs, p_wf, p_wg, p_wb, p_gv, p_gz, p_gi, p_cv, p_st, p_sw, p_tv, p_tw, p_rv, p_rw]
  refine V_rvw1 ?_
  exact (funext fun i => match i with | 0 => rfl | 1 => rfl | 2 => rfl | 3 => rfl | 4 => rfl | 5 => rfl | 6 => rfl | 7 => rfl | 8 => rfl | 9 => rfl | 10 => rfl | 11 => rfl | 12 => rfl | 13 => rfl | 14 => rfl | n + 15 => rfl)
set_option maxHeartbeats 4000000 in
set_option maxRecDepth 100000 in
theorem op_5 (N : fl_M) (W : Nat → Nat → Int32) {t p : Nat} (ht : t < 16) (hp : p < 256) (x : Int32) (hr : RI ((V N W).rv t)) (hl : L7 ((V N W).rv t)) : XX (V (fl_i N 35 t (12 * N.1 0 1)) W) = aft (V N W) t (g_CR_hearOpen ((V N W).rv t) ((V N W).rw t) 5 (nI p) x) := by
  have e : g_CR_hearOpen ((V N W).rv t) ((V N W).rw t) 5 (nI p) x = (0, upd ((V N W).rv t) 9 (12 * (V N W).rv t 0), (V N W).rw t) := by
    unfold g_CR_hearOpen
    rw [if_neg (by decide), if_neg (by decide), if_neg (by decide), if_neg (by decide)]
  rw [e]
  unfold aft
  rw [if_pos rfl]
  congr 1
  (simp only [V_35, va_up_up, va_up_self, mm_rv]) <;> dsimp only [m_tm, m_cn, m_fs, m_wf, m_wg, m_wb, m_gv, m_gz, m_gi, m_cv, m_st, m_sw, m_tv, m_tw, m_rv, m_rw, p_tm, p_cn, p_fs, p_wf, p_wg, p_wb, p_gv, p_gz, p_gi, p_cv, p_st, p_sw, p_tv, p_tw, p_rv, p_rw]
  exact V_rvw1 rfl
