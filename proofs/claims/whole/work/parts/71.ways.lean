/-! the ways: a block is heard, a block is sent -/
def mkU (u : Nat) : Int64 := if u = 0 then 9223372036854775807 else 1152921504606846975
/-- what holds of a way: which slots hold a block, by when it was sent -/
abbrev WU (N : fl_M) (u m n d : Nat) : Prop := (∀ j, j < 8 → N.1 2 (8 * u + j) ≠ 0 → ∃ s, 1 ≤ s ∧ s ≤ m ∧ s % 8 = j ∧ n < s + d) ∧ (∀ j, j < 8 → N.1 2 (8 * u + j) ≠ 0 → N.2 1 (8 * u + j) &&& mkU u = N.2 1 (8 * u + j)) ∧ (N.2 3 u &&& mkU u = N.2 3 u) ∧ ¬ N.1 4 u < 0
set_option maxHeartbeats 4000000 in
set_option maxRecDepth 100000 in
theorem WU.sl {N : fl_M} {u m n d : Nat} (h : WU N u m n d) : ∀ j, j < 8 → N.1 2 (8 * u + j) ≠ 0 → ∃ s, 1 ≤ s ∧ s ≤ m ∧ s % 8 = j ∧ n < s + d := h.1
set_option maxHeartbeats 4000000 in
set_option maxRecDepth 100000 in
theorem WU.bl {N : fl_M} {u m n d : Nat} (h : WU N u m n d) : ∀ j, j < 8 → N.1 2 (8 * u + j) ≠ 0 → N.2 1 (8 * u + j) &&& mkU u = N.2 1 (8 * u + j) := h.2.1
set_option maxHeartbeats 4000000 in
set_option maxRecDepth 100000 in
theorem WU.no {N : fl_M} {u m n d : Nat} (h : WU N u m n d) : N.2 3 u &&& mkU u = N.2 3 u := h.2.2.1
set_option maxHeartbeats 4000000 in
set_option maxRecDepth 100000 in
theorem WU.ou {N : fl_M} {u m n d : Nat} (h : WU N u m n d) : ¬ N.1 4 u < 0 := h.2.2.2
set_option maxHeartbeats 4000000 in
set_option maxRecDepth 100000 in
theorem s7 {a b : Nat} (ha : a < 2 ^ 31) (hb : b ≤ 8) : (nI a - nI b) &&& 7 = nI ((a + 8 - b) % 8) := by
  obtain ⟨j, hj, e⟩ := pk_andE (nI a - nI b) (m := 7) 3 rfl
  have h1 : (nI a - nI b).toBitVec.toNat % 8 = (a + 8 - b) % 8 := by
    rw [Int32.toBitVec_sub]
    have ea : (nI a).toBitVec = BitVec.ofNat 32 a := rfl
    have eb : (nI b).toBitVec = BitVec.ofNat 32 b := rfl
    rw [ea, eb, BitVec.toNat_sub, BitVec.toNat_ofNat, BitVec.toNat_ofNat]
    omega
  have h2 : ((nI a - nI b) &&& 7).toBitVec.toNat = (nI a - nI b).toBitVec.toNat % 8 := by
    rw [Int32.toBitVec_and, BitVec.toNat_and]
    have e3 : (7 : Int32).toBitVec.toNat = 2 ^ 3 - 1 := rfl
    rw [e3, Nat.and_two_pow_sub_one_eq_mod]
  rw [e] at h2
  have e4 : (nI j).toBitVec.toNat = j := by
    show (BitVec.ofNat 32 j).toNat = j
    rw [BitVec.toNat_ofNat]; omega
  rw [e4, h1] at h2
  rw [e, h2]
set_option maxHeartbeats 4000000 in
set_option maxRecDepth 100000 in
theorem a7 {a : Nat} (ha : a < 2 ^ 31) : nI a &&& 7 = nI (a % 8) := by
  have h := s7 (b := 0) ha (by decide)
  have e : nI a - nI 0 = nI a := by rw [nI_0]; exact Int32.sub_zero _
  rw [e] at h
  rw [h]
  congr 1
  omega
set_option maxHeartbeats 4000000 in
set_option maxRecDepth 100000 in
theorem i8_0 {j : Nat} : (8 * 0 + nI j : Int32) = nI (8 * 0 + j) := by
  have e : (8 * 0 : Int32) = nI 0 := rfl
  rw [e, nI_add]
set_option maxHeartbeats 4000000 in
set_option maxRecDepth 100000 in
theorem i8_1 {j : Nat} : (8 * 1 + nI j : Int32) = nI (8 * 1 + j) := by
  have e : (8 * 1 : Int32) = nI 8 := rfl
  rw [e, nI_add]
set_option maxHeartbeats 4000000 in
set_option maxRecDepth 100000 in
theorem V_2 (N : fl_M) (W : Nat → Nat → Int32) (u : Nat) {j : Nat} (hj : j < 8) : V (fl_i N 2 (8 * u + j) 0) W = (mkV (V N W).tm (V N W).cn (V N W).fs (V N W).wf (V N W).wg (va_up (V N W).wb u (vp_updL ((V N W).wb u) j (-1))) (V N W).gv (V N W).gz (V N W).gi (V N W).cv (V N W).st (V N W).sw (V N W).tv (V N W).tw (V N W).rv (V N W).rw) := by
  have hh : yWb (fl_i N 2 (8 * u + j) 0) = va_up (yWb N) u (vp_updL (yWb N u) j (-1)) := by
    funext s i
    unfold yWb
    rw [fi_at]
    unfold upd va_up vp_updL
    by_cases hi : i < 8
    · by_cases hs : s = u
      · subst hs
        rw [if_pos hi, if_pos rfl]
        by_cases hk : i = j
        · rw [if_pos (show 8 * s + i = 8 * s + j by omega), if_pos rfl, if_pos hk]
        · rw [if_neg (show ¬ 8 * s + i = 8 * s + j by omega), if_neg hk]; exact (if_pos hi).symm
      · rw [if_pos hi, if_neg (show ¬ 8 * s + i = 8 * u + j by omega), if_neg hs]; exact (if_pos hi).symm
    · rw [if_neg hi]
      by_cases hs : s = u
      · rw [if_pos hs, if_neg (show ¬ i = j by omega)]; exact (if_neg hi).symm
      · rw [if_neg hs]; exact (if_neg hi).symm
  exact V_of rfl rfl rfl (yF_c (fi_ne (by decide))) (yW_c rfl (fun c h1 h2 => fi_ne (by omega))) rfl hh (yG_c (fi_ne (by decide))) (fi_ne (by decide)) rfl (yC_c (fi_ne (by decide))) (fi_ne (by decide)) (yS_c (fi_ne (by decide))) (yT_c rfl (fun c h1 h2 h3 => fi_ne (by omega))) (yR_c rfl (fun c h1 h2 h3 => fi_ne (by omega))) (yRw_c (fi_ne (by decide)))
set_option maxHeartbeats 4000000 in
set_option maxRecDepth 100000 in
/-- a block put into an empty slot, heard or not -/
theorem V_w1 (N : fl_M) (W : Nat → Nat → Int32) (u : Nat) {j : Nat} (hj : j < 8) (b : Int64) : V (fl_i (fl_l N 1 (8 * u + j) b) 2 (8 * u + j) 1) W = (mkV (V N W).tm (V N W).cn (V N W).fs (V N W).wf (V N W).wg (va_up (V N W).wb u (vp_updL ((V N W).wb u) j b)) (V N W).gv (V N W).gz (V N W).gi (V N W).cv (V N W).st (V N W).sw (V N W).tv (V N W).tw (V N W).rv (V N W).rw) := by
  have hh : yWb (fl_i (fl_l N 1 (8 * u + j) b) 2 (8 * u + j) 1) = va_up (yWb N) u (vp_updL (yWb N u) j b) := by
    funext s i
    unfold yWb
    rw [fi_at, fi_2, fl1_at, fl1_1]
    unfold upd va_up vp_updL
    by_cases hi : i < 8
    · by_cases hs : s = u
      · subst hs
        rw [if_pos hi, if_pos rfl]
        by_cases hk : i = j
        · rw [if_pos (show 8 * s + i = 8 * s + j by omega), if_neg (by decide), if_pos (show 8 * s + i = 8 * s + j by omega), if_pos hk]
        · rw [if_neg (show ¬ 8 * s + i = 8 * s + j by omega), if_neg (show ¬ 8 * s + i = 8 * s + j by omega), if_neg hk]; exact (if_pos hi).symm
      · rw [if_pos hi, if_neg (show ¬ 8 * s + i = 8 * u + j by omega), if_neg (show ¬ 8 * s + i = 8 * u + j by omega), if_neg hs]; exact (if_pos hi).symm
    · rw [if_neg hi]
      by_cases hs : s = u
      · rw [if_pos hs, if_neg (show ¬ i = j by omega)]; exact (if_neg hi).symm
      · rw [if_neg hs]; exact (if_neg hi).symm
  exact V_of rfl rfl rfl (yF_c (fi_ne (by decide))) (yW_c rfl (fun c h1 h2 => fi_ne (by omega))) rfl hh (yG_c (fi_ne (by decide))) (fi_ne (by decide)) rfl (yC_c (fi_ne (by decide))) (fi_ne (by decide)) (yS_c (fi_ne (by decide))) (yT_c rfl (fun c h1 h2 h3 => fi_ne (by omega))) (yR_c rfl (fun c h1 h2 h3 => fi_ne (by omega))) (yRw_c (fi_ne (by decide)))
set_option maxHeartbeats 4000000 in
set_option maxRecDepth 100000 in
theorem V_w1o (N : fl_M) (W : Nat → Nat → Int32) (u : Nat) {j : Nat} (hj : j < 8) (b : Int64) (h0 : N.1 2 (8 * u + j) = 0) : V (fl_i (fl_l N 1 (8 * u + j) b) 2 (8 * u + j) 0) W = V N W := by
  have hh : yWb (fl_i (fl_l N 1 (8 * u + j) b) 2 (8 * u + j) 0) = yWb N := by
    funext s i
    unfold yWb
    rw [fi_at, fi_2, fl1_at, fl1_1, upd_id h0]
    unfold vp_updL
    by_cases hk : 8 * s + i = 8 * u + j
    · rw [hk, h0, if_pos rfl, if_pos rfl]
    · rw [if_neg hk]
  exact V_of rfl rfl rfl (yF_c (fi_ne (by decide))) (yW_c rfl (fun c h1 h2 => fi_ne (by omega))) rfl hh (yG_c (fi_ne (by decide))) (fi_ne (by decide)) rfl (yC_c (fi_ne (by decide))) (fi_ne (by decide)) (yS_c (fi_ne (by decide))) (yT_c rfl (fun c h1 h2 h3 => fi_ne (by omega))) (yR_c rfl (fun c h1 h2 h3 => fi_ne (by omega))) (yRw_c (fi_ne (by decide)))
set_option maxHeartbeats 4000000 in
set_option maxRecDepth 100000 in
theorem V_wys {v : Vw} {u : Nat} {a a' : Nat → Int32} {g : Nat → Int64} {b b' : Nat → Int64} (h1 : a = a') (h2 : b = b') (h3 : g = v.wg u) : ((mkV v.tm v.cn v.fs (va_up v.wf u a) v.wg (va_up v.wb u b) v.gv v.gz v.gi v.cv v.st v.sw v.tv v.tw v.rv v.rw) : Vw) = (mkV v.tm v.cn v.fs (va_up v.wf u a') (va_up v.wg u g) (va_up v.wb u b') v.gv v.gz v.gi v.cv v.st v.sw v.tv v.tw v.rv v.rw) := by rw [h1, h2, h3, va_up_id]
set_option maxHeartbeats 4000000 in
set_option maxRecDepth 100000 in
theorem V_wy0 {v : Vw} {u : Nat} {a : Nat → Int32} {g b : Nat → Int64} (h1 : a = v.wf u) (h2 : b = v.wb u) (h3 : g = v.wg u) : v = (mkV v.tm v.cn v.fs (va_up v.wf u a) (va_up v.wg u g) (va_up v.wb u b) v.gv v.gz v.gi v.cv v.st v.sw v.tv v.tw v.rv v.rw) := by rw [h1, h2, h3, va_up_id, va_up_id, va_up_id]; exact (p_eta v).symm
set_option maxHeartbeats 4000000 in
set_option maxRecDepth 100000 in
theorem updL_id {f : Nat → Int64} {k : Nat} {x : Int64} (h : f k = x) : vp_updL f k x = f := by
  funext j; unfold vp_updL; by_cases hj : j = k
  · rw [if_pos hj, hj, h]
  · rw [if_neg hj]
set_option maxHeartbeats 4000000 in
set_option maxRecDepth 100000 in
theorem lneg {x : Int64} : (x < 0) ↔ x.toBitVec.msb = true := by
  rw [Int64.lt_iff_toInt_lt, Int64.toInt_zero, BitVec.msb_eq_toInt]
  show x.toBitVec.toInt < 0 ↔ decide (x.toBitVec.toInt < 0) = true
  exact (decide_eq_true_iff).symm
set_option maxHeartbeats 4000000 in
set_option maxRecDepth 100000 in
theorem land_nn {x m : Int64} (hm : m.toBitVec.msb = false) : ¬ (x &&& m) < 0 := by
  rw [lneg, Int64.toBitVec_and, BitVec.msb_and, hm, Bool.and_false]
  decide
set_option maxHeartbeats 4000000 in
set_option maxRecDepth 100000 in
theorem nn_ne {x : Int64} (h : ¬ x < 0) : x ≠ -1 := fun c => by rw [c] at h; exact h (by decide)
set_option maxHeartbeats 4000000 in
set_option maxRecDepth 100000 in
theorem cmp_ge0 {x : Int64} : (0 ≤ lg_cmp x 0) ↔ ¬ x < 0 := by
  rw [lg_cmp_ge]
  exact Int64.not_lt.symm
set_option maxHeartbeats 4000000 in
set_option maxRecDepth 100000 in
theorem cmp_lt0 {x : Int64} : (lg_cmp x 0 < 0) ↔ x < 0 := lg_cmp_lt x 0
set_option maxHeartbeats 4000000 in
set_option maxRecDepth 100000 in
/-- decoding answers -1 or what isn't below 0 -/
theorem dd_nn (x : Int64) : g_DC_infoOf x = -1 ∨ ¬ g_DC_infoOf x < 0 := by
  rw [dc_info]
  split
  · exact Or.inr (by rw [← di_eq]; exact land_nn (by decide))
  · split
    · exact Or.inl rfl
    · exact Or.inr (by rw [← di_eq]; exact land_nn (by decide))
set_option maxHeartbeats 4000000 in
set_option maxRecDepth 100000 in
theorem du_L (y : Int64) (hy : y &&& 9223372036854775807 = y) : ∀ k i, i + k = 63 → g_MD_decodeUp_L14 y k i = -1 ∨ ¬ g_MD_decodeUp_L14 y k i < 0 := by
  have hb : ∀ i, i < 63 → j_lshl 1 (nI i) &&& 9223372036854775807 = j_lshl 1 (nI i) := by decide +kernel
  intro k
  induction k with
  | zero => intro i _; exact Or.inl rfl
  | succ k ih =>
    intro i hi
    show (if _ then _ else _) = _ ∨ ¬ (if _ then _ else _) < _
    split
    · refine Or.inr ?_
      have e : y ^^^ j_lshl 1 (nI i) = (y ^^^ j_lshl 1 (nI i)) &&& 9223372036854775807 := by rw [x_land, hy, hb i (by omega)]
      rw [e, ← us_eq]
      exact land_nn (by decide)
    · exact ih (i + 1) (by omega)
set_option maxHeartbeats 4000000 in
set_option maxRecDepth 100000 in
theorem du_nn (x : Int64) : g_UC_infoOf x = -1 ∨ ¬ g_UC_infoOf x < 0 := by
  rw [uc_info]
  unfold g_MD_decodeUp
  split
  · exact Or.inr (by rw [← us_eq]; exact land_nn (by decide))
  · exact du_L _ (by rw [Int64.and_assoc, Int64.and_self]) 63 0 rfl
set_option maxHeartbeats 4000000 in
set_option maxRecDepth 100000 in
theorem lt60 {x : Int64} (h : x &&& 1152921504606846975 = x) : lNt x < 2 ^ 60 := by rw [← h]; exact m60_lt x

set_option maxHeartbeats 4000000 in
set_option maxRecDepth 100000 in
/-- hearing, way 0 -/
theorem s_hear0 (N : fl_M) (W : Nat → Nat → Int32) {m n d : Nat} (hn : n + 1 < 2 ^ 31) (ht : N.1 0 3 = nI (n + 1)) (hd : N.1 0 0 = nI d) (h1 : 1 ≤ d) (h5 : d ≤ 5) (hm : m ≤ n + 1) (hw : WU N 0 m n d) :
    (g_MD_hear N 0).1 = (g_WY_hear ((V N W).wf 0) ((V N W).wg 0) ((V N W).wb 0) (N.1 0 3)).1 ∧ V (g_MD_hear N 0).2 W = (mkV (V N W).tm (V N W).cn (V N W).fs (va_up (V N W).wf 0 (g_WY_hear ((V N W).wf 0) ((V N W).wg 0) ((V N W).wb 0) (N.1 0 3)).2.1) (va_up (V N W).wg 0 (g_WY_hear ((V N W).wf 0) ((V N W).wg 0) ((V N W).wb 0) (N.1 0 3)).2.2.1) (va_up (V N W).wb 0 (g_WY_hear ((V N W).wf 0) ((V N W).wg 0) ((V N W).wb 0) (N.1 0 3)).2.2.2) (V N W).gv (V N W).gz (V N W).gi (V N W).cv (V N W).st (V N W).sw (V N W).tv (V N W).tw (V N W).rv (V N W).rw) ∧ WU (g_MD_hear N 0).2 0 m (n + 1) d ∧ ((g_MD_hear N 0).1 = -1 ∨ ¬ (g_MD_hear N 0).1 < 0) := by
  have e1 : (V N W).wf 0 1 = nI d := hd
  have e0 : (V N W).wf 0 0 = 1 := rfl
  have hj : (n + 1 + 8 - d) % 8 < 8 := Nat.mod_lt _ (by decide)
  unfold g_MD_hear g_WY_hear
  rw [e1, e0, ht, hd, s7 hn (by omega), i8_0, nI_clamp (show (n + 1 + 8 - d) % 8 < 2 ^ 31 by omega), nI_clamp (show 8 * 0 + (n + 1 + 8 - d) % 8 < 2 ^ 31 by omega)]
  generalize hJ : (n + 1 + 8 - d) % 8 = j at hj
  have eb : (V N W).wb 0 j = if N.1 2 (8 * 0 + j) = 0 then -1 else N.2 1 (8 * 0 + j) := if_pos hj
  have stay : N.1 2 (8 * 0 + j) = 0 → WU N 0 m (n + 1) d := fun h0 => ⟨fun i hi h => by
    obtain ⟨s, a, b, c, e⟩ := hw.sl i hi h
    refine ⟨s, a, b, c, ?_⟩
    have : i ≠ j := fun c' => h (by rw [c']; exact h0)
    omega, hw.bl, hw.no, hw.ou⟩
  by_cases h0 : N.1 2 (8 * 0 + j) = 0
  · rw [if_pos h0] at eb
    rw [eb, if_pos h0, if_pos (show lg_cmp (-1) (-1) = 0 from cmpE.2 rfl), ite_self]
    exact ⟨rfl, V_wy0 rfl (updL_id eb) rfl, stay h0, Or.inl rfl⟩
  · obtain ⟨s, a, b, c, e⟩ := hw.sl j hj h0
    have hgt : ¬ nI (n + 1) ≤ nI d := nI_ge (by omega) (by omega)
    have hB := hw.bl j hj h0
    have hnB : ¬ N.2 1 (8 * 0 + j) < 0 := by rw [← hB]; exact land_nn (by decide)
    have gone : ∀ x : fl_M, x.1 2 = upd (N.1 2) (8 * 0 + j) 0 → x.2 = N.2 → x.1 4 = N.1 4 → WU x 0 m (n + 1) d := by
      intro x x1 x2 x3
      refine ⟨fun i hi h => ?_, fun i hi h => ?_, by rw [x2]; exact hw.no, by rw [x3]; exact hw.ou⟩
      · rw [x1] at h
        by_cases hij : i = j
        · rw [hij, pk_us] at h; exact absurd rfl h
        · rw [pk_un (by omega)] at h
          obtain ⟨s', a', b', c', e'⟩ := hw.sl i hi h
          exact ⟨s', a', b', c', by omega⟩
      · rw [x1] at h
        rw [x2]
        by_cases hij : i = j
        · rw [hij, pk_us] at h; exact absurd rfl h
        · rw [pk_un (by omega)] at h
          exact hw.bl i hi h
    rw [if_neg h0] at eb
    rw [eb, if_neg hgt, if_neg h0, if_neg (fun c' => nn_ne hnB (cmpE.1 c'))]
    rw [if_pos (show (0 : Int32) = 0 from rfl), if_neg (show ¬ (1 : Int32) = 0 by decide)]
    have ed : g_MD_decode 1 (N.2 1 (8 * 0 + j)) = g_UC_infoOf (N.2 1 (8 * 0 + j)) := by
      unfold g_MD_decode
      rw [if_neg (by decide), uc_info]
    have es : (g_UC_syndromeOf (N.2 1 (8 * 0 + j)) = 0) ↔ (g_MD_upRest (N.2 1 (8 * 0 + j)) = 0) := by
      rw [uc_syn, show N.2 1 (8 * 0 + j) &&& 9223372036854775807 = N.2 1 (8 * 0 + j) from hB]
    have hdn := du_nn (N.2 1 (8 * 0 + j))
    rw [ed]
    rcases hdn with hi | hi
    · rw [if_pos (show lg_cmp (g_UC_infoOf (N.2 1 (8 * 0 + j))) (-1) = 0 from cmpE.2 hi), if_neg (fun c' => (cmp_ge0.1 c') (by rw [hi]; decide))]
      refine ⟨hi.symm, ?_, gone _ ?_ rfl ?_, Or.inl rfl⟩
      · show V (fl_i (fl_i N 2 (8 * 0 + j) 0) 6 0 _) W = _
        (simp only [V_6, V_2 N W 0 hj, mm_wf, mm_wb, mc_wf_wb]) <;> dsimp only [m_tm, m_cn, m_fs, m_wf, m_wg, m_wb, m_gv, m_gz, m_gi, m_cv, m_st, m_sw, m_tv, m_tw, m_rv, m_rw, p_tm, p_cn, p_fs, p_wf, p_wg, p_wb, p_gv, p_gz, p_gi, p_cv, p_st, p_sw, p_tv, p_tw, p_rv, p_rw]
        exact V_wys (v := V N W) rfl rfl rfl
      · show (fl_i (fl_i N 2 (8 * 0 + j) 0) 6 _ _).1 2 = _
        rw [fi_ne (by decide), fi_at]
      · show (fl_i (fl_i N 2 (8 * 0 + j) 0) 6 _ _).1 4 = _
        rw [fi_ne (by decide), fi_ne (by decide)]
    · rw [if_neg (fun c' => nn_ne hi (cmpE.1 c')), if_pos (cmp_ge0.2 hi)]
      by_cases hs : g_UC_syndromeOf (N.2 1 (8 * 0 + j)) = 0
      · rw [if_pos hs, if_pos (es.1 hs)]
        refine ⟨rfl, ?_, gone _ ?_ rfl ?_, Or.inr hi⟩
        · show V (fl_i (fl_i N 2 (8 * 0 + j) 0) 7 0 (N.1 7 0 + 0)) W = _
          rw [fi_id (show (fl_i N 2 (8 * 0 + j) 0).1 7 0 = N.1 7 0 + 0 from (Int32.add_zero _).symm), V_2 N W 0 hj]
          dsimp only [m_tm, m_cn, m_fs, m_wf, m_wg, m_wb, m_gv, m_gz, m_gi, m_cv, m_st, m_sw, m_tv, m_tw, m_rv, m_rw, p_tm, p_cn, p_fs, p_wf, p_wg, p_wb, p_gv, p_gz, p_gi, p_cv, p_st, p_sw, p_tv, p_tw, p_rv, p_rw]
          rw [va_up_id, va_up_id]
        · show (fl_i (fl_i N 2 (8 * 0 + j) 0) 7 _ _).1 2 = _
          rw [fi_ne (by decide), fi_at]
        · show (fl_i (fl_i N 2 (8 * 0 + j) 0) 7 _ _).1 4 = _
          rw [fi_ne (by decide), fi_ne (by decide)]
      · rw [if_neg hs, if_neg (fun c' => hs (es.2 c'))]
        refine ⟨rfl, ?_, gone _ ?_ rfl ?_, Or.inr hi⟩
        · show V (fl_i (fl_i N 2 (8 * 0 + j) 0) 7 0 _) W = _
          (simp only [V_7, V_2 N W 0 hj, mm_wf, mm_wb, mc_wf_wb]) <;> dsimp only [m_tm, m_cn, m_fs, m_wf, m_wg, m_wb, m_gv, m_gz, m_gi, m_cv, m_st, m_sw, m_tv, m_tw, m_rv, m_rw, p_tm, p_cn, p_fs, p_wf, p_wg, p_wb, p_gv, p_gz, p_gi, p_cv, p_st, p_sw, p_tv, p_tw, p_rv, p_rw]
          exact V_wys (v := V N W) rfl rfl rfl
        · show (fl_i (fl_i N 2 (8 * 0 + j) 0) 7 _ _).1 2 = _
          rw [fi_ne (by decide), fi_at]
        · show (fl_i (fl_i N 2 (8 * 0 + j) 0) 7 _ _).1 4 = _
          rw [fi_ne (by decide), fi_ne (by decide)]
set_option maxHeartbeats 4000000 in
set_option maxRecDepth 100000 in
/-- hearing, way 1 -/
theorem s_hear1 (N : fl_M) (W : Nat → Nat → Int32) {m n d : Nat} (hn : n + 1 < 2 ^ 31) (ht : N.1 0 3 = nI (n + 1)) (hd : N.1 0 0 = nI d) (h1 : 1 ≤ d) (h5 : d ≤ 5) (hm : m ≤ n + 1) (hw : WU N 1 m n d) :
    (g_MD_hear N 1).1 = (g_WY_hear ((V N W).wf 1) ((V N W).wg 1) ((V N W).wb 1) (N.1 0 3)).1 ∧ V (g_MD_hear N 1).2 W = (mkV (V N W).tm (V N W).cn (V N W).fs (va_up (V N W).wf 1 (g_WY_hear ((V N W).wf 1) ((V N W).wg 1) ((V N W).wb 1) (N.1 0 3)).2.1) (va_up (V N W).wg 1 (g_WY_hear ((V N W).wf 1) ((V N W).wg 1) ((V N W).wb 1) (N.1 0 3)).2.2.1) (va_up (V N W).wb 1 (g_WY_hear ((V N W).wf 1) ((V N W).wg 1) ((V N W).wb 1) (N.1 0 3)).2.2.2) (V N W).gv (V N W).gz (V N W).gi (V N W).cv (V N W).st (V N W).sw (V N W).tv (V N W).tw (V N W).rv (V N W).rw) ∧ WU (g_MD_hear N 1).2 1 m (n + 1) d ∧ ((g_MD_hear N 1).1 = -1 ∨ ¬ (g_MD_hear N 1).1 < 0) := by
  have e1 : (V N W).wf 1 1 = nI d := hd
  have e0 : (V N W).wf 1 0 = 0 := rfl
  have hj : (n + 1 + 8 - d) % 8 < 8 := Nat.mod_lt _ (by decide)
  unfold g_MD_hear g_WY_hear
  rw [e1, e0, ht, hd, s7 hn (by omega), i8_1, nI_clamp (show (n + 1 + 8 - d) % 8 < 2 ^ 31 by omega), nI_clamp (show 8 * 1 + (n + 1 + 8 - d) % 8 < 2 ^ 31 by omega)]
  generalize hJ : (n + 1 + 8 - d) % 8 = j at hj
  have eb : (V N W).wb 1 j = if N.1 2 (8 * 1 + j) = 0 then -1 else N.2 1 (8 * 1 + j) := if_pos hj
  have stay : N.1 2 (8 * 1 + j) = 0 → WU N 1 m (n + 1) d := fun h0 => ⟨fun i hi h => by
    obtain ⟨s, a, b, c, e⟩ := hw.sl i hi h
    refine ⟨s, a, b, c, ?_⟩
    have : i ≠ j := fun c' => h (by rw [c']; exact h0)
    omega, hw.bl, hw.no, hw.ou⟩
  by_cases h0 : N.1 2 (8 * 1 + j) = 0
  · rw [if_pos h0] at eb
    rw [eb, if_pos h0, if_pos (show lg_cmp (-1) (-1) = 0 from cmpE.2 rfl), ite_self]
    exact ⟨rfl, V_wy0 rfl (updL_id eb) rfl, stay h0, Or.inl rfl⟩
  · obtain ⟨s, a, b, c, e⟩ := hw.sl j hj h0
    have hgt : ¬ nI (n + 1) ≤ nI d := nI_ge (by omega) (by omega)
    have hB := hw.bl j hj h0
    have hnB : ¬ N.2 1 (8 * 1 + j) < 0 := by rw [← hB]; exact land_nn (by decide)
    have gone : ∀ x : fl_M, x.1 2 = upd (N.1 2) (8 * 1 + j) 0 → x.2 = N.2 → x.1 4 = N.1 4 → WU x 1 m (n + 1) d := by
      intro x x1 x2 x3
      refine ⟨fun i hi h => ?_, fun i hi h => ?_, by rw [x2]; exact hw.no, by rw [x3]; exact hw.ou⟩
      · rw [x1] at h
        by_cases hij : i = j
        · rw [hij, pk_us] at h; exact absurd rfl h
        · rw [pk_un (by omega)] at h
          obtain ⟨s', a', b', c', e'⟩ := hw.sl i hi h
          exact ⟨s', a', b', c', by omega⟩
      · rw [x1] at h
        rw [x2]
        by_cases hij : i = j
        · rw [hij, pk_us] at h; exact absurd rfl h
        · rw [pk_un (by omega)] at h
          exact hw.bl i hi h
    rw [if_neg h0] at eb
    rw [eb, if_neg hgt, if_neg h0, if_neg (fun c' => nn_ne hnB (cmpE.1 c'))]
    rw [if_neg (show ¬ (1 : Int32) = 0 by decide), if_pos (show (0 : Int32) = 0 from rfl)]
    have ed : g_MD_decode 0 (N.2 1 (8 * 1 + j)) = g_DC_infoOf (N.2 1 (8 * 1 + j)) := by
      unfold g_MD_decode
      rw [if_pos rfl, dn_info]
    have es : (g_DC_syndromeOf (N.2 1 (8 * 1 + j)) = 0) ↔ (g_MD_downRest (N.2 1 (8 * 1 + j)) = 0) := ds_0 (lt60 hB)
    have hdn := dd_nn (N.2 1 (8 * 1 + j))
    rw [ed]
    rcases hdn with hi | hi
    · rw [if_pos (show lg_cmp (g_DC_infoOf (N.2 1 (8 * 1 + j))) (-1) = 0 from cmpE.2 hi), if_neg (fun c' => (cmp_ge0.1 c') (by rw [hi]; decide))]
      refine ⟨hi.symm, ?_, gone _ ?_ rfl ?_, Or.inl rfl⟩
      · show V (fl_i (fl_i N 2 (8 * 1 + j) 0) 6 1 _) W = _
        (simp only [V_6, V_2 N W 1 hj, mm_wf, mm_wb, mc_wf_wb]) <;> dsimp only [m_tm, m_cn, m_fs, m_wf, m_wg, m_wb, m_gv, m_gz, m_gi, m_cv, m_st, m_sw, m_tv, m_tw, m_rv, m_rw, p_tm, p_cn, p_fs, p_wf, p_wg, p_wb, p_gv, p_gz, p_gi, p_cv, p_st, p_sw, p_tv, p_tw, p_rv, p_rw]
        exact V_wys (v := V N W) rfl rfl rfl
      · show (fl_i (fl_i N 2 (8 * 1 + j) 0) 6 _ _).1 2 = _
        rw [fi_ne (by decide), fi_at]
      · show (fl_i (fl_i N 2 (8 * 1 + j) 0) 6 _ _).1 4 = _
        rw [fi_ne (by decide), fi_ne (by decide)]
    · rw [if_neg (fun c' => nn_ne hi (cmpE.1 c')), if_pos (cmp_ge0.2 hi)]
      by_cases hs : g_DC_syndromeOf (N.2 1 (8 * 1 + j)) = 0
      · rw [if_pos hs, if_pos (es.1 hs)]
        refine ⟨rfl, ?_, gone _ ?_ rfl ?_, Or.inr hi⟩
        · show V (fl_i (fl_i N 2 (8 * 1 + j) 0) 7 1 (N.1 7 1 + 0)) W = _
          rw [fi_id (show (fl_i N 2 (8 * 1 + j) 0).1 7 1 = N.1 7 1 + 0 from (Int32.add_zero _).symm), V_2 N W 1 hj]
          dsimp only [m_tm, m_cn, m_fs, m_wf, m_wg, m_wb, m_gv, m_gz, m_gi, m_cv, m_st, m_sw, m_tv, m_tw, m_rv, m_rw, p_tm, p_cn, p_fs, p_wf, p_wg, p_wb, p_gv, p_gz, p_gi, p_cv, p_st, p_sw, p_tv, p_tw, p_rv, p_rw]
          rw [va_up_id, va_up_id]
        · show (fl_i (fl_i N 2 (8 * 1 + j) 0) 7 _ _).1 2 = _
          rw [fi_ne (by decide), fi_at]
        · show (fl_i (fl_i N 2 (8 * 1 + j) 0) 7 _ _).1 4 = _
          rw [fi_ne (by decide), fi_ne (by decide)]
      · rw [if_neg hs, if_neg (fun c' => hs (es.2 c'))]
        refine ⟨rfl, ?_, gone _ ?_ rfl ?_, Or.inr hi⟩
        · show V (fl_i (fl_i N 2 (8 * 1 + j) 0) 7 1 _) W = _
          (simp only [V_7, V_2 N W 1 hj, mm_wf, mm_wb, mc_wf_wb]) <;> dsimp only [m_tm, m_cn, m_fs, m_wf, m_wg, m_wb, m_gv, m_gz, m_gi, m_cv, m_st, m_sw, m_tv, m_tw, m_rv, m_rw, p_tm, p_cn, p_fs, p_wf, p_wg, p_wb, p_gv, p_gz, p_gi, p_cv, p_st, p_sw, p_tv, p_tw, p_rv, p_rw]
          exact V_wys (v := V N W) rfl rfl rfl
        · show (fl_i (fl_i N 2 (8 * 1 + j) 0) 7 _ _).1 2 = _
          rw [fi_ne (by decide), fi_at]
        · show (fl_i (fl_i N 2 (8 * 1 + j) 0) 7 _ _).1 4 = _
          rw [fi_ne (by decide), fi_ne (by decide)]
