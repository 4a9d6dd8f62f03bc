/-! the ways: a block is sent -/
set_option maxHeartbeats 4000000 in
set_option maxRecDepth 100000 in
theorem ub_b : ∀ i, i < 56 → (j_lshl (bt i) 7 ^^^ (uU (j_lshl (bt i) 7)).toInt64) &&& 9223372036854775807 = j_lshl (bt i) 7 ^^^ (uU (j_lshl (bt i) 7)).toInt64 := by decide +kernel
set_option maxHeartbeats 4000000 in
set_option maxRecDepth 100000 in
theorem ub_m (M : fl_M) (x : Int64) : g_MD_encode M 1 x &&& mkU 0 = g_MD_encode M 1 x := by
  have h := lin_eqL (f := fun y => (j_lshl y 7 ^^^ (uU (j_lshl y 7)).toInt64) &&& 9223372036854775807) (g := fun y => j_lshl y 7 ^^^ (uU (j_lshl y 7)).toInt64) (fun a b => by show (j_lshl _ _ ^^^ Int32.toInt64 _) &&& _ = _; rw [x_lshl, x_uU, Int32.toInt64_xor, l_mid, x_land]) (fun a b => by show j_lshl _ _ ^^^ Int32.toInt64 _ = _; rw [x_lshl, x_uU, Int32.toInt64_xor, l_mid]) 56 (by decide) ub_b _ (m56_lt x)
  unfold g_MD_encode
  rw [if_neg (by decide), up_uU, Int32.toInt64_xor, ← Int64.xor_assoc]
  show _ &&& (9223372036854775807 : Int64) = _
  rw [x_land, h]
  rfl
set_option maxHeartbeats 4000000 in
set_option maxRecDepth 100000 in
theorem db_b : ∀ i, i < 44 → (j_lshl (bt i) 16 ^^^ g_MD_encode_L42 Mg 11 (j_lshl (bt i) 16)) &&& 1152921504606846975 = j_lshl (bt i) 16 ^^^ g_MD_encode_L42 Mg 11 (j_lshl (bt i) 16) := by decide +kernel
set_option maxHeartbeats 4000000 in
set_option maxRecDepth 100000 in
theorem db_m {M : fl_M} (hM : M.2 0 2 = 121991) (x : Int64) : g_MD_encode M 0 x &&& mkU 1 = g_MD_encode M 0 x := by
  have h := lin_eqL (f := fun y => (j_lshl y 16 ^^^ g_MD_encode_L42 Mg 11 (j_lshl y 16)) &&& 1152921504606846975) (g := fun y => j_lshl y 16 ^^^ g_MD_encode_L42 Mg 11 (j_lshl y 16)) (fun a b => by show (j_lshl _ _ ^^^ g_MD_encode_L42 _ _ _) &&& _ = _; rw [x_lshl, x_e42, l_mid, x_land]) (fun a b => by show j_lshl _ _ ^^^ g_MD_encode_L42 _ _ _ = _; rw [x_lshl, x_e42, l_mid]) 44 (by decide) db_b _ (m44_lt x)
  unfold g_MD_encode
  rw [if_pos rfl, e42_M (N := Mg) hM]
  exact h
set_option maxHeartbeats 4000000 in
set_option maxRecDepth 100000 in
theorem V_wyf {v : Vw} {u : Nat} {a a' : Nat → Int32} {g g' : Nat → Int64} {b b' : Nat → Int64} (h1 : a = a') (h2 : b = b') (h3 : g = g') : ((mkV v.tm v.cn v.fs (va_up v.wf u a) (va_up v.wg u g) (va_up v.wb u b) v.gv v.gz v.gi v.cv v.st v.sw v.tv v.tw v.rv v.rw) : Vw) = (mkV v.tm v.cn v.fs (va_up v.wf u a') (va_up v.wg u g') (va_up v.wb u b') v.gv v.gz v.gi v.cv v.st v.sw v.tv v.tw v.rv v.rw) := by rw [h1, h2, h3]
set_option maxHeartbeats 4000000 in
set_option maxRecDepth 100000 in
theorem V_wyo {v : Vw} {u : Nat} {a a' : Nat → Int32} {g g' : Nat → Int64} {b' : Nat → Int64} (h1 : a = a') (h2 : b' = v.wb u) (h3 : g = g') : ((mkV v.tm v.cn v.fs (va_up v.wf u a) (va_up v.wg u g) v.wb v.gv v.gz v.gi v.cv v.st v.sw v.tv v.tw v.rv v.rw) : Vw) = (mkV v.tm v.cn v.fs (va_up v.wf u a') (va_up v.wg u g') (va_up v.wb u b') v.gv v.gz v.gi v.cv v.st v.sw v.tv v.tw v.rv v.rw) := by rw [h1, h2, h3, va_up_id]

set_option maxHeartbeats 4000000 in
set_option maxRecDepth 100000 in
/-- sending, way 0 -/
theorem s_send0 (N : fl_M) (W : Nat → Nat → Int32) (x : Int64) {n k d : Nat} (hn : n + 1 < 2 ^ 31) (ht : N.1 0 3 = nI (n + 1)) (h5 : d ≤ 5) (hk : n ≤ k) (hw : WU N 0 n k d) (hkd : k < n + 1 + d) :
    V (g_MD_send N 0 (g_MD_encode N 1 x)) W = (mkV (V N W).tm (V N W).cn (V N W).fs (va_up (V N W).wf 0 (g_WY_send ((V N W).wf 0) ((V N W).wg 0) ((V N W).wb 0) (N.1 0 3) x).1) (va_up (V N W).wg 0 (g_WY_send ((V N W).wf 0) ((V N W).wg 0) ((V N W).wb 0) (N.1 0 3) x).2.1) (va_up (V N W).wb 0 (g_WY_send ((V N W).wf 0) ((V N W).wg 0) ((V N W).wb 0) (N.1 0 3) x).2.2) (V N W).gv (V N W).gz (V N W).gi (V N W).cv (V N W).st (V N W).sw (V N W).tv (V N W).tw (V N W).rv (V N W).rw) ∧ WU (g_MD_send N 0 (g_MD_encode N 1 x)) 0 (n + 1) k d := by
  have e0 : (V N W).wf 0 0 = 1 := rfl
  have e4 : (V N W).wf 0 4 = N.1 4 0 := rfl
  have e3 : (V N W).wg 0 3 = N.2 3 0 := rfl
  have eB : g_UC_blockOf x = g_MD_encode N 1 x := uc_block N x (d := 1) (by decide)
  have mB : g_MD_encode N 1 x &&& mkU 0 = g_MD_encode N 1 x := ub_m N x
  have hj : (n + 1) % 8 < 8 := Nat.mod_lt _ (by decide)
  have cu : ((0 : Int32)).toNatClampNeg = 0 := rfl
  unfold g_MD_send g_WY_send
  rw [e0, ht, a7 hn, i8_0, nI_clamp (show (n + 1) % 8 < 2 ^ 31 by omega), nI_clamp (show 8 * 0 + (n + 1) % 8 < 2 ^ 31 by omega), cu, if_neg (show ¬ (1 : Int32) = 0 by decide), e4, e3, eB]
  generalize hJ : (n + 1) % 8 = j at hj
  have emp : N.1 2 (8 * 0 + j) = 0 := Decidable.byContradiction fun c => by
    obtain ⟨s, a, b, c', e⟩ := hw.sl j hj c
    omega
  have after : ∀ (y : fl_M) (B : Int64) (r : Int32), y.1 2 = upd (N.1 2) (8 * 0 + j) r → y.2 1 = vp_updL (N.2 1) (8 * 0 + j) B → B &&& mkU 0 = B → y.2 3 0 = 0 → ¬ y.1 4 0 < 0 → WU y 0 (n + 1) k d := by
    intro y B r y1 y2 hB y3 y4
    refine ⟨fun i hi h => ?_, fun i hi h => ?_, by rw [y3]; exact Int64.zero_and, y4⟩
    · by_cases hij : i = j
      · exact ⟨n + 1, by omega, Nat.le_refl _, by omega, hkd⟩
      · rw [y1, pk_un (by omega)] at h
        obtain ⟨s, a, b, c', e⟩ := hw.sl i hi h
        exact ⟨s, a, by omega, c', e⟩
    · rw [y2]
      by_cases hij : i = j
      · rw [hij]; rw [show vp_updL (N.2 1) (8 * 0 + j) B (8 * 0 + j) = B from if_pos rfl]; exact hB
      · rw [y1, pk_un (by omega)] at h
        rw [show vp_updL (N.2 1) (8 * 0 + j) B (8 * 0 + i) = N.2 1 (8 * 0 + i) from if_neg (by omega)]
        exact hw.bl i hi h
  have hx : (g_MD_encode N 1 x ^^^ N.2 3 0) &&& mkU 0 = g_MD_encode N 1 x ^^^ N.2 3 0 := by rw [x_land, mB, hw.no]
  generalize g_MD_encode N 1 x = B at hx
  by_cases h4 : N.1 4 0 = 0
  · rw [if_pos h4, if_pos (show N.1 4 0 ≤ 0 by rw [h4]; decide)]
    refine ⟨?_, after _ (B ^^^ N.2 3 0) 1 ?_ ?_ hx ?_ ?_⟩
    · show V (fl_i (fl_i (fl_i (fl_l (fl_l N 1 (8 * 0 + j) (B ^^^ N.2 3 0)) 3 0 0) 2 (8 * 0 + j) 1) 4 0 0) 5 0 (N.1 5 0 + 1)) W = _
      rw [show fl_i (fl_l (fl_l N 1 (8 * 0 + j) (B ^^^ N.2 3 0)) 3 0 0) 2 (8 * 0 + j) 1 = fl_l (fl_i (fl_l N 1 (8 * 0 + j) (B ^^^ N.2 3 0)) 2 (8 * 0 + j) 1) 3 0 0 from rfl]
      (simp only [V_5, V_4, V_l3, V_w1 N W 0 hj, va_up_up, va_up_self, mm_wf, mm_wg, mm_wb, mc_wf_wg, mc_wf_wb, mc_wg_wb]) <;> dsimp only [m_tm, m_cn, m_fs, m_wf, m_wg, m_wb, m_gv, m_gz, m_gi, m_cv, m_st, m_sw, m_tv, m_tw, m_rv, m_rw, p_tm, p_cn, p_fs, p_wf, p_wg, p_wb, p_gv, p_gz, p_gi, p_cv, p_st, p_sw, p_tv, p_tw, p_rv, p_rw]
      refine V_wyf (v := V N W) ?_ rfl rfl
      rw [upd_id (show (V N W).wf 0 4 = 0 from h4)]
      rfl
    · exact (fi_ne (by decide)).trans ((fi_ne (by decide)).trans fi_at)
    · exact (fl1_ne (N := fl_l N 1 (8 * 0 + j) (B ^^^ N.2 3 0)) (c := 3) (j := 0) (x := 0) (show 1 ≠ 3 by decide)).trans fl1_at
    · exact (congrFun (fl1_at (N := fl_l N 1 (8 * 0 + j) (B ^^^ N.2 3 0)) (c := 3) (j := 0) (x := 0)) 0).trans (if_pos rfl)
    · rw [show (fl_i (fl_i (fl_i (fl_l (fl_l N 1 (8 * 0 + j) (B ^^^ N.2 3 0)) 3 0 0) 2 (8 * 0 + j) 1) 4 0 0) 5 0 (N.1 5 0 + 1)).1 4 0 = 0 from (fi_n (by decide)).trans fi_s]
      decide
  · have h4' : ¬ N.1 4 0 ≤ 0 := fun c => h4 (by
      have a := hw.ou
      rw [Int32.lt_iff_toInt_lt, Int32.toInt_zero] at a
      rw [Int32.le_iff_toInt_le, Int32.toInt_zero] at c
      refine Int32.toInt_inj.1 ?_
      rw [Int32.toInt_zero]
      omega)
    rw [if_neg h4, if_neg h4', if_neg h4']
    refine ⟨?_, after _ (B ^^^ N.2 3 0) 0 ?_ ?_ hx ?_ ?_⟩
    · show V (fl_i (fl_i (fl_i (fl_l (fl_l N 1 (8 * 0 + j) (B ^^^ N.2 3 0)) 3 0 0) 2 (8 * 0 + j) 0) 4 0 (N.1 4 0 - 1)) 5 0 (N.1 5 0 + 1)) W = _
      rw [show fl_i (fl_l (fl_l N 1 (8 * 0 + j) (B ^^^ N.2 3 0)) 3 0 0) 2 (8 * 0 + j) 0 = fl_l (fl_i (fl_l N 1 (8 * 0 + j) (B ^^^ N.2 3 0)) 2 (8 * 0 + j) 0) 3 0 0 from rfl]
      (simp only [V_5, V_4, V_l3, V_w1o N W 0 hj _ emp, va_up_up, va_up_self, mm_wf, mm_wg, mc_wf_wg]) <;> dsimp only [m_tm, m_cn, m_fs, m_wf, m_wg, m_wb, m_gv, m_gz, m_gi, m_cv, m_st, m_sw, m_tv, m_tw, m_rv, m_rw, p_tm, p_cn, p_fs, p_wf, p_wg, p_wb, p_gv, p_gz, p_gi, p_cv, p_st, p_sw, p_tv, p_tw, p_rv, p_rw]
      exact V_wyo (v := V N W) (funext fun i => match i with | 0 => rfl | 1 => rfl | 2 => rfl | 3 => rfl | 4 => rfl | 5 => rfl | 6 => rfl | 7 => rfl | n + 8 => rfl) rfl rfl
    · exact (fi_ne (by decide)).trans ((fi_ne (by decide)).trans fi_at)
    · exact (fl1_ne (N := fl_l N 1 (8 * 0 + j) (B ^^^ N.2 3 0)) (c := 3) (j := 0) (x := 0) (show 1 ≠ 3 by decide)).trans fl1_at
    · exact (congrFun (fl1_at (N := fl_l N 1 (8 * 0 + j) (B ^^^ N.2 3 0)) (c := 3) (j := 0) (x := 0)) 0).trans (if_pos rfl)
    · rw [show (fl_i (fl_i (fl_i (fl_l (fl_l N 1 (8 * 0 + j) (B ^^^ N.2 3 0)) 3 0 0) 2 (8 * 0 + j) 0) 4 0 (N.1 4 0 - 1)) 5 0 (N.1 5 0 + 1)).1 4 0 = N.1 4 0 - 1 from (fi_n (by decide)).trans fi_s]
      obtain ⟨c, hc, ec⟩ := nI_of hw.ou
      rw [ec] at h4 ⊢
      cases c with
      | zero => exact absurd nI_0 h4
      | succ c => rw [nI_pred]; exact nI_pos (by omega)
set_option maxHeartbeats 4000000 in
set_option maxRecDepth 100000 in
/-- sending, way 1 -/
theorem s_send1 (N : fl_M) (W : Nat → Nat → Int32) (hM : N.2 0 2 = 121991) (x : Int64) {n k d : Nat} (hn : n + 1 < 2 ^ 31) (ht : N.1 0 3 = nI (n + 1)) (h5 : d ≤ 5) (hk : n ≤ k) (hw : WU N 1 n k d) (hkd : k < n + 1 + d) :
    V (g_MD_send N 1 (g_MD_encode N 0 x)) W = (mkV (V N W).tm (V N W).cn (V N W).fs (va_up (V N W).wf 1 (g_WY_send ((V N W).wf 1) ((V N W).wg 1) ((V N W).wb 1) (N.1 0 3) x).1) (va_up (V N W).wg 1 (g_WY_send ((V N W).wf 1) ((V N W).wg 1) ((V N W).wb 1) (N.1 0 3) x).2.1) (va_up (V N W).wb 1 (g_WY_send ((V N W).wf 1) ((V N W).wg 1) ((V N W).wb 1) (N.1 0 3) x).2.2) (V N W).gv (V N W).gz (V N W).gi (V N W).cv (V N W).st (V N W).sw (V N W).tv (V N W).tw (V N W).rv (V N W).rw) ∧ WU (g_MD_send N 1 (g_MD_encode N 0 x)) 1 (n + 1) k d := by
  have e0 : (V N W).wf 1 0 = 0 := rfl
  have e4 : (V N W).wf 1 4 = N.1 4 1 := rfl
  have e3 : (V N W).wg 1 3 = N.2 3 1 := rfl
  have eB : g_DC_blockOf x = g_MD_encode N 0 x := dc_block hM x
  have mB : g_MD_encode N 0 x &&& mkU 1 = g_MD_encode N 0 x := db_m hM x
  have hj : (n + 1) % 8 < 8 := Nat.mod_lt _ (by decide)
  have cu : ((1 : Int32)).toNatClampNeg = 1 := rfl
  unfold g_MD_send g_WY_send
  rw [e0, ht, a7 hn, i8_1, nI_clamp (show (n + 1) % 8 < 2 ^ 31 by omega), nI_clamp (show 8 * 1 + (n + 1) % 8 < 2 ^ 31 by omega), cu, if_pos (show (0 : Int32) = 0 from rfl), e4, e3, eB]
  generalize hJ : (n + 1) % 8 = j at hj
  have emp : N.1 2 (8 * 1 + j) = 0 := Decidable.byContradiction fun c => by
    obtain ⟨s, a, b, c', e⟩ := hw.sl j hj c
    omega
  have after : ∀ (y : fl_M) (B : Int64) (r : Int32), y.1 2 = upd (N.1 2) (8 * 1 + j) r → y.2 1 = vp_updL (N.2 1) (8 * 1 + j) B → B &&& mkU 1 = B → y.2 3 1 = 0 → ¬ y.1 4 1 < 0 → WU y 1 (n + 1) k d := by
    intro y B r y1 y2 hB y3 y4
    refine ⟨fun i hi h => ?_, fun i hi h => ?_, by rw [y3]; exact Int64.zero_and, y4⟩
    · by_cases hij : i = j
      · exact ⟨n + 1, by omega, Nat.le_refl _, by omega, hkd⟩
      · rw [y1, pk_un (by omega)] at h
        obtain ⟨s, a, b, c', e⟩ := hw.sl i hi h
        exact ⟨s, a, by omega, c', e⟩
    · rw [y2]
      by_cases hij : i = j
      · rw [hij]; rw [show vp_updL (N.2 1) (8 * 1 + j) B (8 * 1 + j) = B from if_pos rfl]; exact hB
      · rw [y1, pk_un (by omega)] at h
        rw [show vp_updL (N.2 1) (8 * 1 + j) B (8 * 1 + i) = N.2 1 (8 * 1 + i) from if_neg (by omega)]
        exact hw.bl i hi h
  have hx : (g_MD_encode N 0 x ^^^ N.2 3 1) &&& mkU 1 = g_MD_encode N 0 x ^^^ N.2 3 1 := by rw [x_land, mB, hw.no]
  generalize g_MD_encode N 0 x = B at hx
  by_cases h4 : N.1 4 1 = 0
  · rw [if_pos h4, if_pos (show N.1 4 1 ≤ 0 by rw [h4]; decide)]
    refine ⟨?_, after _ (B ^^^ N.2 3 1) 1 ?_ ?_ hx ?_ ?_⟩
    · show V (fl_i (fl_i (fl_i (fl_l (fl_l N 1 (8 * 1 + j) (B ^^^ N.2 3 1)) 3 1 0) 2 (8 * 1 + j) 1) 4 1 0) 5 1 (N.1 5 1 + 1)) W = _
      rw [show fl_i (fl_l (fl_l N 1 (8 * 1 + j) (B ^^^ N.2 3 1)) 3 1 0) 2 (8 * 1 + j) 1 = fl_l (fl_i (fl_l N 1 (8 * 1 + j) (B ^^^ N.2 3 1)) 2 (8 * 1 + j) 1) 3 1 0 from rfl]
      (simp only [V_5, V_4, V_l3, V_w1 N W 1 hj, va_up_up, va_up_self, mm_wf, mm_wg, mm_wb, mc_wf_wg, mc_wf_wb, mc_wg_wb]) <;> dsimp only [m_tm, m_cn, m_fs, m_wf, m_wg, m_wb, m_gv, m_gz, m_gi, m_cv, m_st, m_sw, m_tv, m_tw, m_rv, m_rw, p_tm, p_cn, p_fs, p_wf, p_wg, p_wb, p_gv, p_gz, p_gi, p_cv, p_st, p_sw, p_tv, p_tw, p_rv, p_rw]
      refine V_wyf (v := V N W) ?_ rfl rfl
      rw [upd_id (show (V N W).wf 1 4 = 0 from h4)]
      rfl
    · exact (fi_ne (by decide)).trans ((fi_ne (by decide)).trans fi_at)
    · exact (fl1_ne (N := fl_l N 1 (8 * 1 + j) (B ^^^ N.2 3 1)) (c := 3) (j := 1) (x := 0) (show 1 ≠ 3 by decide)).trans fl1_at
    · exact (congrFun (fl1_at (N := fl_l N 1 (8 * 1 + j) (B ^^^ N.2 3 1)) (c := 3) (j := 1) (x := 0)) 1).trans (if_pos rfl)
    · rw [show (fl_i (fl_i (fl_i (fl_l (fl_l N 1 (8 * 1 + j) (B ^^^ N.2 3 1)) 3 1 0) 2 (8 * 1 + j) 1) 4 1 0) 5 1 (N.1 5 1 + 1)).1 4 1 = 0 from (fi_n (by decide)).trans fi_s]
      decide
  · have h4' : ¬ N.1 4 1 ≤ 0 := fun c => h4 (by
      have a := hw.ou
      rw [Int32.lt_iff_toInt_lt, Int32.toInt_zero] at a
      rw [Int32.le_iff_toInt_le, Int32.toInt_zero] at c
      refine Int32.toInt_inj.1 ?_
      rw [Int32.toInt_zero]
      omega)
    rw [if_neg h4, if_neg h4', if_neg h4']
    refine ⟨?_, after _ (B ^^^ N.2 3 1) 0 ?_ ?_ hx ?_ ?_⟩
    · show V (fl_i (fl_i (fl_i (fl_l (fl_l N 1 (8 * 1 + j) (B ^^^ N.2 3 1)) 3 1 0) 2 (8 * 1 + j) 0) 4 1 (N.1 4 1 - 1)) 5 1 (N.1 5 1 + 1)) W = _
      rw [show fl_i (fl_l (fl_l N 1 (8 * 1 + j) (B ^^^ N.2 3 1)) 3 1 0) 2 (8 * 1 + j) 0 = fl_l (fl_i (fl_l N 1 (8 * 1 + j) (B ^^^ N.2 3 1)) 2 (8 * 1 + j) 0) 3 1 0 from rfl]
      (simp only [V_5, V_4, V_l3, V_w1o N W 1 hj _ emp, va_up_up, va_up_self, mm_wf, mm_wg, mc_wf_wg]) <;> dsimp only [m_tm, m_cn, m_fs, m_wf, m_wg, m_wb, m_gv, m_gz, m_gi, m_cv, m_st, m_sw, m_tv, m_tw, m_rv, m_rw, p_tm, p_cn, p_fs, p_wf, p_wg, p_wb, p_gv, p_gz, p_gi, p_cv, p_st, p_sw, p_tv, p_tw, p_rv, p_rw]
      exact V_wyo (v := V N W) (funext fun i => match i with | 0 => rfl | 1 => rfl | 2 => rfl | 3 => rfl | 4 => rfl | 5 => rfl | 6 => rfl | 7 => rfl | n + 8 => rfl) rfl rfl
    · exact (fi_ne (by decide)).trans ((fi_ne (by decide)).trans fi_at)
    · exact (fl1_ne (N := fl_l N 1 (8 * 1 + j) (B ^^^ N.2 3 1)) (c := 3) (j := 1) (x := 0) (show 1 ≠ 3 by decide)).trans fl1_at
    · exact (congrFun (fl1_at (N := fl_l N 1 (8 * 1 + j) (B ^^^ N.2 3 1)) (c := 3) (j := 1) (x := 0)) 1).trans (if_pos rfl)
    · rw [show (fl_i (fl_i (fl_i (fl_l (fl_l N 1 (8 * 1 + j) (B ^^^ N.2 3 1)) 3 1 0) 2 (8 * 1 + j) 0) 4 1 (N.1 4 1 - 1)) 5 1 (N.1 5 1 + 1)).1 4 1 = N.1 4 1 - 1 from (fi_n (by decide)).trans fi_s]
      obtain ⟨c, hc, ec⟩ := nI_of hw.ou
      rw [ec] at h4 ⊢
      cases c with
      | zero => exact absurd nI_0 h4
      | succ c => rw [nI_pred]; exact nI_pos (by omega)
