/-! the ground sends what is due -/
def poB (A : fl_M) (nx : Int32) (I : Int64) : fl_M := g_MD_sendUp (fl_i (fl_l A 23 nx.toNatClampNeg (I ||| (j_lshl nx.toInt64 48))) 24 nx.toNatClampNeg 0) ((fl_l A 23 nx.toNatClampNeg (I ||| (j_lshl nx.toInt64 48))).2 23 nx.toNatClampNeg)
def poC (S : fl_M) : fl_M := fl_i (fl_i (fl_i S 0 29 (((S.1 0 29) + 1) &&& 15)) 0 30 (((fl_i S 0 29 (((S.1 0 29) + 1) &&& 15)).1 0 30) + 1)) 0 36 ((fl_i (fl_i S 0 29 (((S.1 0 29) + 1) &&& 15)) 0 30 (((fl_i S 0 29 (((S.1 0 29) + 1) &&& 15)).1 0 30) + 1)).1 0 1)
def poD (S : fl_M) : fl_M := if ((poC S).1 0 30) = 1 then fl_i (poC S) 0 34 1 else fl_i (poC S) 0 34 ((poC S).1 0 34)
def sdF (A : fl_M) (nx lo : Int32) (I : Int64) : fl_M := if lo = 0 then poD (poB A nx I) else g_MD_sendUp A (I ||| 4503599627370496)
def pdI (w p t k : Int32) : Int64 := (((w.toInt64 &&& 4294967295) ||| (j_lshl p.toInt64 32)) ||| (j_lshl t.toInt64 40)) ||| (j_lshl k.toInt64 44)
def sdA (M : fl_M) (x1 : Int32) : fl_M := fl_i M 15 x1.toNatClampNeg ((M.1 15 x1.toNatClampNeg) &&& ((1 <<< ((g_MD_firstDue (M.1 15 x1.toNatClampNeg)) &&& 31)) ^^^ (-1)))
set_option maxHeartbeats 4000000 in
set_option maxRecDepth 100000 in
theorem sd_eq (M : fl_M) (x1 : Int32) : g_MD_sendDue M x1 = if (g_MD_firstDue (M.1 15 x1.toNatClampNeg)) = 17 then (if (M.1 16 x1.toNatClampNeg) = 0 then sdF (fl_i (fl_i (sdA M x1) 19 x1.toNatClampNeg 1) 21 x1.toNatClampNeg (3 * (M.1 0 1))) (M.1 0 29) (M.1 12 x1.toNatClampNeg) (pdI (g_MD_checksum (sdA M x1) x1) (M.1 10 x1.toNatClampNeg) x1 3) else sdF (fl_i (fl_i (sdA M x1) 19 x1.toNatClampNeg 1) 21 x1.toNatClampNeg (3 * (M.1 0 1))) (M.1 0 29) (M.1 12 x1.toNatClampNeg) (pdI 0 0 x1 4)) else (if (g_MD_firstDue (M.1 15 x1.toNatClampNeg)) = 18 then sdF (sdA M x1) (M.1 0 29) (M.1 12 x1.toNatClampNeg) (pdI 0 0 x1 5) else (if (g_MD_firstDue (M.1 15 x1.toNatClampNeg)) = 16 then sdF (sdA M x1) (M.1 0 29) (M.1 12 x1.toNatClampNeg) (pdI (M.1 11 x1.toNatClampNeg) (M.1 10 x1.toNatClampNeg) x1 1) else (if 16 ≤ (g_MD_firstDue (M.1 15 x1.toNatClampNeg)) then sdF (sdA M x1) (M.1 0 29) (M.1 12 x1.toNatClampNeg) (pdI (g_MD_checksum (sdA M x1) x1) (M.1 10 x1.toNatClampNeg) x1 3) else sdF (sdA M x1) (M.1 0 29) (M.1 12 x1.toNatClampNeg) (pdI (M.1 9 (((16 * x1) + (g_MD_firstDue (M.1 15 x1.toNatClampNeg))).toNatClampNeg)) (g_MD_firstDue (M.1 15 x1.toNatClampNeg)) x1 2)))) := rfl
/-- a block sent up -/
def snd0 (v : Vw) (tm : Int32) (x : Int64) : Vw := (mkV v.tm v.cn v.fs (va_up v.wf 0 (g_WY_send (v.wf 0) (v.wg 0) (v.wb 0) tm x).1) (va_up v.wg 0 (g_WY_send (v.wf 0) (v.wg 0) (v.wb 0) tm x).2.1) (va_up v.wb 0 (g_WY_send (v.wf 0) (v.wg 0) (v.wb 0) tm x).2.2) v.gv v.gz v.gi v.cv v.st v.sw v.tv v.tw v.rv v.rw)
set_option maxHeartbeats 4000000 in
set_option maxRecDepth 100000 in
theorem send_c (N : fl_M) (u : Int32) (B : Int64) {c : Nat} (h2 : c ≠ 2) (h4 : c ≠ 4) (h5 : c ≠ 5) : (g_MD_send N u B).1 c = N.1 c := by
  unfold g_MD_send
  split
  · rw [fi_ne h5, fi_ne h4, fi_ne h2]; rfl
  · split
    · rw [fi_ne h5, fi_ne h4, fi_ne h2]; rfl
    · rw [fi_ne h5, fi_ne h4, fi_ne h2]; rfl
set_option maxHeartbeats 4000000 in
set_option maxRecDepth 100000 in
theorem send_l (N : fl_M) (u : Int32) (B : Int64) {c : Nat} (h1 : c ≠ 1) (h3 : c ≠ 3) : (g_MD_send N u B).2 c = N.2 c := by
  have h : ∀ (i j : Nat) (a b : Int64), (fl_l (fl_l N 1 i a) 3 j b).2 c = N.2 c := fun i j a b => by rw [fl1_ne h3, fl1_ne h1]
  unfold g_MD_send
  split
  · exact h _ _ _ _
  · split
    · exact h _ _ _ _
    · exact h _ _ _ _
set_option maxHeartbeats 4000000 in
set_option maxRecDepth 100000 in
theorem wu_eq {N N' : fl_M} {u m n d : Nat} (h : WU N u m n d) (e2 : N'.1 2 = N.1 2) (e1 : N'.2 1 = N.2 1) (e3 : N'.2 3 = N.2 3) (e4 : N'.1 4 = N.1 4) : WU N' u m n d := by
  unfold WU
  rw [e2, e1, e3, e4]
  exact h
set_option maxHeartbeats 4000000 in
set_option maxRecDepth 100000 in
theorem up_send (A : fl_M) (W : Nat → Nat → Int32) (x : Int64) {n k d : Nat} (hn : n + 1 < 2 ^ 31) (ht : A.1 0 3 = nI (n + 1)) (h5 : d ≤ 5) (hk : n ≤ k) (hw : WU A 0 n k d) (hkd : k < n + 1 + d) : V (g_MD_sendUp A x) W = snd0 (V A W) (nI (n + 1)) x ∧ WU (g_MD_sendUp A x) 0 (n + 1) k d := by
  have h := s_send0 A W x hn ht h5 hk hw hkd
  rw [ht] at h
  exact h
set_option maxHeartbeats 4000000 in
set_option maxRecDepth 100000 in
/-- sent in order -/
theorem po_v (A : fl_M) (W : Nat → Nat → Int32) (I : Int64) {n k d : Nat} (hn : n + 1 < 2 ^ 31) (ht : A.1 0 3 = nI (n + 1)) (h5 : d ≤ 5) (hk : n ≤ k) (hw : WU A 0 n k d) (hkd : k < n + 1 + d) : V (poD (poB A (A.1 0 29) I)) W = snd0 (pG (V A W) (g_GF_sendInOrder (V A W).gv (V A W).gz (V A W).gi I).2) (nI (n + 1)) (g_GF_sendInOrder (V A W).gv (V A W).gz (V A W).gi I).1 ∧ WU (poD (poB A (A.1 0 29) I)) 0 (n + 1) k d := by
  generalize hj : (A.1 0 29).toNatClampNeg = j
  generalize hX : I ||| j_lshl (A.1 0 29).toInt64 48 = X
  have eB : poB A (A.1 0 29) I = g_MD_sendUp (fl_i (fl_l A 23 j X) 24 j 0) X := by
    unfold poB
    rw [hj, hX, fl1_at]
    rw [show vp_updL (A.2 23) j X j = X from if_pos rfl]
  have hB : V (fl_i (fl_l A 23 j X) 24 j 0) W = pG (V A W) ((V A W).gv, upd (V A W).gz j 0, vp_updL (V A W).gi j X) := by
    (simp only [V_24, V_l23, mm_gz, mm_gi, mc_gz_gi]) <;> dsimp only [m_tm, m_cn, m_fs, m_wf, m_wg, m_wb, m_gv, m_gz, m_gi, m_cv, m_st, m_sw, m_tv, m_tw, m_rv, m_rw, p_tm, p_cn, p_fs, p_wf, p_wg, p_wb, p_gv, p_gz, p_gi, p_cv, p_st, p_sw, p_tv, p_tw, p_rv, p_rw]
    rfl
  obtain ⟨s1, s2⟩ := up_send (fl_i (fl_l A 23 j X) 24 j 0) W X hn ht h5 hk (wu_eq hw rfl rfl rfl rfl) hkd
  rw [eB]
  generalize hS : g_MD_sendUp (fl_i (fl_l A 23 j X) 24 j 0) X = S at s1 s2
  have z : S.1 0 = A.1 0 := by
    rw [← hS]
    exact (send_c _ _ _ (by decide) (by decide) (by decide)).trans (fi_ne (by decide))
  have eC : poC S = fl_i (fl_i (fl_i S 0 29 ((A.1 0 29 + 1) &&& 15)) 0 30 (A.1 0 30 + 1)) 0 36 (A.1 0 1) := by
    unfold poC
    rw [fi_0 (show 30 ≠ 29 by decide), fi_0 (show 1 ≠ 30 by decide), fi_0 (show 1 ≠ 29 by decide), z]
  have eD : poD S = fl_i (poC S) 0 34 (if A.1 0 30 + 1 = 1 then 1 else A.1 0 34) := by
    unfold poD
    have a : (poC S).1 0 30 = A.1 0 30 + 1 := by rw [eC, fi_0 (by decide)]; exact fi_s
    have b : (poC S).1 0 34 = A.1 0 34 := by rw [eC, fi_0 (by decide), fi_0 (by decide), fi_0 (by decide), z]
    rw [a, b]
    split
    · rfl
    · rfl
  refine ⟨?_, ?_⟩
  · rw [eD, eC]
    (simp only [V_0_34, V_0_36, V_0_30, V_0_29, s1, mm_gv]) <;> dsimp only [m_tm, m_cn, m_fs, m_wf, m_wg, m_wb, m_gv, m_gz, m_gi, m_cv, m_st, m_sw, m_tv, m_tw, m_rv, m_rw, p_tm, p_cn, p_fs, p_wf, p_wg, p_wb, p_gv, p_gz, p_gi, p_cv, p_st, p_sw, p_tv, p_tw, p_rv, p_rw]
    unfold g_GF_sendInOrder
    have e5 : (V A W).gv 5 = A.1 0 30 := rfl
    have e4 : (V A W).gv 4 = A.1 0 29 := rfl
    have e0 : (V A W).gv 0 = A.1 0 1 := rfl
    have e6 : (V A W).gv 6 = A.1 0 34 := rfl
    rw [e5, e4, e0, hj, hX, show vp_updL (V A W).gi j X j = X from if_pos rfl, hB]
    by_cases h : A.1 0 30 + 1 = 1
    · rw [if_pos h, if_pos h]
      rfl
    · rw [if_neg h, if_neg h]
      unfold snd0 pG
      dsimp only [m_tm, m_cn, m_fs, m_wf, m_wg, m_wb, m_gv, m_gz, m_gi, m_cv, m_st, m_sw, m_tv, m_tw, m_rv, m_rw, p_tm, p_cn, p_fs, p_wf, p_wg, p_wb, p_gv, p_gz, p_gi, p_cv, p_st, p_sw, p_tv, p_tw, p_rv, p_rw]
      rw [upd_id (show upd (upd (upd (V A W).gv 4 ((A.1 0 29 + 1) &&& 15)) 5 (A.1 0 30 + 1)) 7 (A.1 0 1) 6 = A.1 0 34 from rfl)]
  · rw [eD, eC]
    exact wu_eq s2 rfl rfl rfl rfl
