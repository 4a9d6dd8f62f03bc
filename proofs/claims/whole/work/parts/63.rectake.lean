/-! records: a PDU is heard -/
set_option maxHeartbeats 4000000 in
set_option maxRecDepth 100000 in
theorem nI_mul (a b : Nat) : nI a * nI b = nI (a * b) := (Int32.ofNat_mul a b).symm
set_option maxHeartbeats 4000000 in
set_option maxRecDepth 100000 in
theorem ix16 {t p : Nat} (ht : t < 16) (hp : p < 16) : (16 * nI t + nI p).toNatClampNeg = 16 * t + p := by
  have e : (16 : Int32) = nI 16 := rfl
  rw [e, nI_mul, nI_add, nI_clamp (by omega)]
set_option maxHeartbeats 4000000 in
set_option maxRecDepth 100000 in
theorem ifz {c : Prop} [Decidable c] : ((if c then (0 : Int32) else 1) = 0) ↔ c := by
  by_cases h : c
  · rw [if_pos h]; exact ⟨fun _ => h, fun _ => rfl⟩
  · rw [if_neg h]; exact ⟨fun c' => absurd c' (by decide), fun c' => absurd c' h⟩
set_option maxHeartbeats 4000000 in
set_option maxRecDepth 100000 in
theorem V_rvw {v : Vw} {t : Nat} {a b c d : Nat → Int32} (h : a = b) (h' : c = d) : ((mkV v.tm v.cn v.fs v.wf v.wg v.wb v.gv v.gz v.gi v.cv v.st v.sw v.tv v.tw (va_up v.rv t a) (va_up v.rw t c)) : Vw) = (mkV v.tm v.cn v.fs v.wf v.wg v.wb v.gv v.gz v.gi v.cv v.st v.sw v.tv v.tw (va_up v.rv t b) (va_up v.rw t d)) := by rw [h, h']
set_option maxHeartbeats 4000000 in
set_option maxRecDepth 100000 in
theorem V_rvw1 {v : Vw} {t : Nat} {a b : Nat → Int32} (h : a = b) : ((mkV v.tm v.cn v.fs v.wf v.wg v.wb v.gv v.gz v.gi v.cv v.st v.sw v.tv v.tw (va_up v.rv t a) v.rw) : Vw) = (mkV v.tm v.cn v.fs v.wf v.wg v.wb v.gv v.gz v.gi v.cv v.st v.sw v.tv v.tw (va_up v.rv t b) (va_up v.rw t (v.rw t))) := by rw [h, va_up_id]
set_option maxHeartbeats 4000000 in
set_option maxRecDepth 100000 in
theorem V_rvw0 {v : Vw} {t : Nat} : v = (mkV v.tm v.cn v.fs v.wf v.wg v.wb v.gv v.gz v.gi v.cv v.st v.sw v.tv v.tw (va_up v.rv t (v.rv t)) (va_up v.rw t (v.rw t))) := by rw [va_up_id, va_up_id]; exact (p_eta v).symm
set_option maxHeartbeats 4000000 in
set_option maxRecDepth 100000 in
/-- METADATA -/
theorem tk_1 (N : fl_M) (W : Nat → Nat → Int32) {t : Nat} (ht : t < 16) (p x : Int32) : (g_MD_takes N (nI t) 1 p x).1 = (g_CR_takeMetadata ((V N W).rv t) ((V N W).rw t) p x).1 ∧ V (g_MD_takes N (nI t) 1 p x).2 W = (mkV (V N W).tm (V N W).cn (V N W).fs (V N W).wf (V N W).wg (V N W).wb (V N W).gv (V N W).gz (V N W).gi (V N W).cv (V N W).st (V N W).sw (V N W).tv (V N W).tw (va_up (V N W).rv t (g_CR_takeMetadata ((V N W).rv t) ((V N W).rw t) p x).2.1) (va_up (V N W).rw t (g_CR_takeMetadata ((V N W).rv t) ((V N W).rw t) p x).2.2)) := by
  unfold g_MD_takes g_CR_takeMetadata g_CR_has g_FL_isBelow
  rw [clN ht, if_pos rfl]
  have e4 : (V N W).rv t 4 = N.1 27 t := rfl
  simp only [e4, ifz]
  by_cases h0 : N.1 27 t &&& 65536 = 0
  · have h0' := (bit16 _).2 h0
    simp only [if_pos h0, if_pos h0']
    by_cases h1 : 16 < p
    · simp only [if_pos h1]; exact ⟨by trivial, V_rvw0⟩
    · simp only [if_neg h1]
      by_cases h2 : x < 0
      · simp only [if_pos h2, if_pos rfl]; exact ⟨by trivial, V_rvw0⟩
      · simp only [if_neg h2, ifz]
        by_cases h3 : 3 < x
        · have h3' : (4 : Int32) ≤ x := by
            rw [Int32.lt_iff_toInt_lt] at h3; rw [Int32.le_iff_toInt_le]
            have a : (3 : Int32).toInt = 3 := rfl
            have b : (4 : Int32).toInt = 4 := rfl
            omega
          simp only [if_pos h3, if_pos h3']; exact ⟨by trivial, V_rvw0⟩
        · have h3' : ¬ (4 : Int32) ≤ x := by
            rw [Int32.lt_iff_toInt_lt] at h3; rw [Int32.le_iff_toInt_le]
            have a : (3 : Int32).toInt = 3 := rfl
            have b : (4 : Int32).toInt = 4 := rfl
            omega
          simp only [if_neg h3, if_neg h3']
          refine ⟨by trivial, ?_⟩
          (simp only [V_27, V_29, V_30, V_33, va_up_up, va_up_self, mm_rv]) <;> dsimp only [m_tm, m_cn, m_fs, m_wf, m_wg, m_wb, m_gv, m_gz, m_gi, m_cv, m_st, m_sw, m_tv, m_tw, m_rv, m_rw, p_tm, p_cn, p_fs, p_wf, p_wg, p_wb, p_gv, p_gz, p_gi, p_cv, p_st, p_sw, p_tv, p_tw, p_rv, p_rw]
          exact V_rvw1 (funext fun i => match i with | 0 => rfl | 1 => rfl | 2 => rfl | 3 => rfl | 4 => rfl | 5 => rfl | 6 => rfl | 7 => rfl | 8 => rfl | 9 => rfl | 10 => rfl | 11 => rfl | 12 => rfl | 13 => rfl | 14 => rfl | n + 15 => rfl)
  · have h0' := fun c => h0 ((bit16 _).1 c)
    simp only [if_neg h0, if_neg h0']
    have e : (if 16 < p then ((0 : Int32), N) else (if x < 0 then (0, N) else (if 3 < x then (0, N) else (0, N)))) = (0, N) := by
      split
      · rfl
      · split
        · rfl
        · split
          · rfl
          · rfl
    rw [e]
    exact ⟨by trivial, V_rvw0⟩
set_option maxHeartbeats 4000000 in
set_option maxRecDepth 100000 in
/-- EOF -/
theorem tk_3 (N : fl_M) (W : Nat → Nat → Int32) {t : Nat} (ht : t < 16) (p x : Int32) : (g_MD_takes N (nI t) 3 p x).1 = (g_CR_takeEof ((V N W).rv t) ((V N W).rw t) p x).1 ∧ V (g_MD_takes N (nI t) 3 p x).2 W = (mkV (V N W).tm (V N W).cn (V N W).fs (V N W).wf (V N W).wg (V N W).wb (V N W).gv (V N W).gz (V N W).gi (V N W).cv (V N W).st (V N W).sw (V N W).tv (V N W).tw (va_up (V N W).rv t (g_CR_takeEof ((V N W).rv t) ((V N W).rw t) p x).2.1) (va_up (V N W).rw t (g_CR_takeEof ((V N W).rv t) ((V N W).rw t) p x).2.2)) := by
  unfold g_MD_takes g_CR_takeEof g_CR_has
  rw [clN ht, if_neg (by decide), if_pos rfl]
  have e4 : (V N W).rv t 4 = N.1 27 t := rfl
  simp only [e4, ifz]
  by_cases h1 : 16 < p
  · have h1' : ¬ p ≤ 16 := by rw [Int32.lt_iff_toInt_lt] at h1; rw [Int32.le_iff_toInt_le]; omega
    simp only [if_pos h1, if_neg h1']
    split
    · exact ⟨by trivial, V_rvw0⟩
    · exact ⟨by trivial, V_rvw0⟩
  · have h1' : p ≤ 16 := by rw [Int32.lt_iff_toInt_lt] at h1; rw [Int32.le_iff_toInt_le]; omega
    simp only [if_neg h1, if_pos h1']
    by_cases h0 : N.1 27 t &&& 131072 = 0
    · have h0' := (bit17 _).2 h0
      simp only [if_pos h0, if_pos h0']
      refine ⟨by trivial, ?_⟩
      (simp only [V_27, V_31, V_32, V_33, va_up_up, va_up_self, mm_rv]) <;> dsimp only [m_tm, m_cn, m_fs, m_wf, m_wg, m_wb, m_gv, m_gz, m_gi, m_cv, m_st, m_sw, m_tv, m_tw, m_rv, m_rw, p_tm, p_cn, p_fs, p_wf, p_wg, p_wb, p_gv, p_gz, p_gi, p_cv, p_st, p_sw, p_tv, p_tw, p_rv, p_rw]
      refine V_rvw1 ?_
      exact (funext fun i => match i with | 0 => rfl | 1 => rfl | 2 => rfl | 3 => rfl | 4 => rfl | 5 => rfl | 6 => rfl | 7 => rfl | 8 => rfl | 9 => rfl | 10 => rfl | 11 => rfl | 12 => rfl | 13 => rfl | 14 => rfl | n + 15 => rfl)
    · have h0' := fun c => h0 ((bit17 _).1 c)
      simp only [if_neg h0, if_neg h0']
      exact ⟨by trivial, V_rvw0⟩
set_option maxHeartbeats 4000000 in
set_option maxRecDepth 100000 in
/-- DATA -/
theorem tk_2 (N : fl_M) (W : Nat → Nat → Int32) {t : Nat} (ht : t < 16) {p : Nat} (hp : p < 256) (x : Int32) : (g_MD_takes N (nI t) 2 (nI p) x).1 = (g_CR_takeData ((V N W).rv t) ((V N W).rw t) (nI p) x).1 ∧ V (g_MD_takes N (nI t) 2 (nI p) x).2 W = (mkV (V N W).tm (V N W).cn (V N W).fs (V N W).wf (V N W).wg (V N W).wb (V N W).gv (V N W).gz (V N W).gi (V N W).cv (V N W).st (V N W).sw (V N W).tv (V N W).tw (va_up (V N W).rv t (g_CR_takeData ((V N W).rv t) ((V N W).rw t) (nI p) x).2.1) (va_up (V N W).rw t (g_CR_takeData ((V N W).rv t) ((V N W).rw t) (nI p) x).2.2)) := by
  unfold g_MD_takes g_CR_takeData g_CR_has g_FL_isBelow
  rw [clN ht, if_neg (by decide), if_neg (by decide), if_pos rfl]
  have e4 : (V N W).rv t 4 = N.1 27 t := rfl
  have n0 : ¬ nI p < 0 := nI_pos (by omega)
  have c16 : ((16 : Int32) ≤ nI p) ↔ 16 ≤ p := nI_leI (a := 16) (by omega) (by omega)
  have c15 : ((15 : Int32) < nI p) ↔ 15 < p := nI_ltI (a := 15) (by omega) (by omega)
  simp only [e4, ifz, if_neg n0]
  by_cases h1 : 15 < p
  · simp only [if_pos (c15.2 h1), if_pos (c16.2 h1)]
    exact ⟨by trivial, V_rvw0⟩
  · have h1' := fun c => h1 (c15.1 c)
    have h1'' : ¬ (16 : Int32) ≤ nI p := fun c => h1 (c16.1 c)
    simp only [if_neg h1', if_neg h1'']
    have hb := ishr_bit (N.1 27 t) (k := p) (by omega)
    by_cases h0 : N.1 27 t &&& ((1 : Int32) <<< (nI p &&& 31)) = 0
    · have h0' := hb.2 h0
      simp only [if_pos h0, if_pos h0']
      refine ⟨by trivial, ?_⟩
      rw [ix16 ht (by omega), nI_clamp (show p < 2 ^ 31 by omega)]
      (simp only [V_27, V_28 _ _ _ (show p < 16 by omega), V_33, va_up_up, va_up_self, mm_rv, mm_rw, mc_rv_rw]) <;> dsimp only [m_tm, m_cn, m_fs, m_wf, m_wg, m_wb, m_gv, m_gz, m_gi, m_cv, m_st, m_sw, m_tv, m_tw, m_rv, m_rw, p_tm, p_cn, p_fs, p_wf, p_wg, p_wb, p_gv, p_gz, p_gi, p_cv, p_st, p_sw, p_tv, p_tw, p_rv, p_rw]
    · have h0' := fun c => h0 (hb.1 c)
      simp only [if_neg h0, if_neg h0']
      exact ⟨by trivial, V_rvw0⟩
