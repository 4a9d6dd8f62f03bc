/-! step 6 of the ground -/
set_option maxHeartbeats 4000000 in
set_option maxRecDepth 100000 in
theorem pTR_11 (M : fl_M) (i : Nat) (f w : Nat → Int32) : (pTR M (24 + 2 * i) f w).1 11 = M.1 11 := by
  unfold pTR; dsimp only [m_tm, m_cn, m_fs, m_wf, m_wg, m_wb, m_gv, m_gz, m_gi, m_cv, m_st, m_sw, m_tv, m_tw, m_rv, m_rw, p_tm, p_cn, p_fs, p_wf, p_wg, p_wb, p_gv, p_gz, p_gi, p_cv, p_st, p_sw, p_tv, p_tw, p_rv, p_rw]; rw [va_up_ne _ _ (by omega), va_up_ne _ _ (by omega)]
set_option maxHeartbeats 4000000 in
set_option maxRecDepth 100000 in
theorem pTR_13 (M : fl_M) (i : Nat) (f w : Nat → Int32) : (pTR M (24 + 2 * i) f w).1 13 = M.1 13 := by
  unfold pTR; dsimp only [m_tm, m_cn, m_fs, m_wf, m_wg, m_wb, m_gv, m_gz, m_gi, m_cv, m_st, m_sw, m_tv, m_tw, m_rv, m_rw, p_tm, p_cn, p_fs, p_wf, p_wg, p_wb, p_gv, p_gz, p_gi, p_cv, p_st, p_sw, p_tv, p_tw, p_rv, p_rw]; rw [va_up_ne _ _ (by omega), va_up_ne _ _ (by omega)]
set_option maxHeartbeats 4000000 in
set_option maxRecDepth 100000 in
theorem gs_L (N : fl_M) (W : Nat → Nat → Int32) {c n kk d : Nat} (hc : c ≤ 16) (h : TI N W c) (hg : GI (V N W).gv (V N W).gi) (h1 : 1 ≤ d) (h5 : d ≤ 5) (hsp : N.1 0 1 = nI (2 * d + 6)) (hn : n + 1 < 2 ^ 31) (htm : N.1 0 3 = nI (n + 1)) (hk : n ≤ kk) (hw : WU N 0 n kk d) (hkd : kk < n + 1 + d) : ∀ k i, i + k = c → Snt N W c n kk d (g_GR_nextInfo_L47 k i (g_GF_hasRoom (V N W).gv (V N W).gz (V N W).gi) (XX (V N W))) (g_MD_groundSends_L123 N k i) := by
  intro k
  induction k with
  | zero => intro i _; exact Or.inr ⟨rfl, rfl⟩
  | succ k ih =>
    intro i hi
    have hi16 : i < 16 := by omega
    have e5 : (V N W).tv i 5 = N.1 12 i := rfl
    have e6 : (V N W).tv i 6 = N.1 15 i := rfl
    have e13 : (V N W).tv i 13 = N.1 18 i := rfl
    have g3 : (V N W).gv 3 = N.1 0 28 := rfl
    have g5 : (V N W).gv 5 = N.1 0 30 := rfl
    obtain ⟨d1, d2⟩ := gs_due N W (t := i) hi16 (by omega) h hg h1 h5 hsp hn htm hk hw hkd
    have hr := ih (i + 1) (by omega)
    unfold g_GR_nextInfo_L47 g_MD_groundSends_L123
    rw [clN hi16, X_tv _ hi16, X_tw _ hi16, pTR_11, pTR_13, show (pTR (XX (V N W)) (24 + 2 * i) (g_TR_nextPdu ((V N W).tv i) ((V N W).tw i)).2.1 (g_TR_nextPdu ((V N W).tv i) ((V N W).tw i)).2.2).2 12 = (V N W).gi from rfl, X_11, X_13, e5]
    generalize hR : g_GF_hasRoom (V N W).gv (V N W).gz (V N W).gi = rm at hr ⊢
    have rmz : (rm = 0) ↔ ¬ (N.1 0 28 = 0 ∧ ¬ 7 ≤ N.1 0 30) := by
      rw [← hR]
      unfold g_GF_hasRoom
      rw [g3, g5]
      by_cases a : N.1 0 28 = 0
      · rw [if_pos a]
        by_cases b : 7 ≤ N.1 0 30
        · rw [if_pos b]; exact ⟨fun _ c' => c'.2 b, fun _ => rfl⟩
        · rw [if_neg b]; exact ⟨fun c' => absurd c' (by decide), fun c' => absurd ⟨a, b⟩ c'⟩
      · rw [if_neg a]; exact ⟨fun _ c' => a c'.1, fun _ => rfl⟩
    have hts : (g_TR_hasToSend ((V N W).tv i) ((V N W).tw i) = 0) ↔ ¬ (N.1 18 i = 0 ∧ ¬ N.1 15 i = 0) := by
      unfold g_TR_hasToSend
      rw [e6, e13]
      by_cases a : N.1 15 i = 0
      · rw [if_pos a]; exact ⟨fun _ c' => c'.2 a, fun _ => rfl⟩
      · rw [if_neg a]
        by_cases b : N.1 18 i = 0
        · rw [if_pos b]; exact ⟨fun c' => absurd c' (by decide), fun c' => absurd ⟨b, a⟩ c'⟩
        · rw [if_neg b]; exact ⟨fun _ c' => b c'.1, fun _ => rfl⟩
    by_cases a : N.1 18 i = 0
    · rw [if_pos a]
      by_cases b : N.1 15 i = 0
      · rw [if_pos b, if_pos (hts.2 (fun c' => c'.2 b))]
        exact hr
      · rw [if_neg b, if_neg (fun c' => (hts.1 c') ⟨a, b⟩)]
        by_cases l : N.1 12 i = 0
        · rw [if_pos l, if_pos l]
          by_cases s : N.1 0 28 = 0
          · rw [if_pos s]
            by_cases o : 7 ≤ N.1 0 30
            · rw [if_pos o, if_pos (rmz.2 (fun c' => c'.2 o))]
              exact hr
            · rw [if_neg o, if_neg (fun c' => (rmz.1 c') ⟨s, o⟩)]
              exact d2 l s o
          · rw [if_neg s, if_pos (rmz.2 (fun c' => s c'.1))]
            exact hr
        · rw [if_neg l, if_neg l]
          exact d1 l
    · rw [if_neg a, if_pos (hts.2 (fun c' => a c'.1))]
      exact hr
set_option maxHeartbeats 4000000 in
set_option maxRecDepth 100000 in
/-- the oldest frame that is marked, or what the transactions have -/
theorem gs_M (N : fl_M) (W : Nat → Nat → Int32) {c n kk d : Nat} (hc : c ≤ 16) (hcc : N.1 0 13 = nI c) (h : TI N W c) (hg : GI (V N W).gv (V N W).gi) (h1 : 1 ≤ d) (h5 : d ≤ 5) (hsp : N.1 0 1 = nI (2 * d + 6)) (hn : n + 1 < 2 ^ 31) (htm : N.1 0 3 = nI (n + 1)) (hk : n ≤ kk) (hw : WU N 0 n kk d) (hkd : kk < n + 1 + d) : ∀ k, (g_GF_sendMarked_L5 (V N W).gv (V N W).gz (V N W).gi k = (-1, (V N W).gv, (V N W).gz, (V N W).gi) ∧ g_MD_groundSends_L65 N k = g_MD_groundSends_L123 N c 0) ∨ (¬ (g_GF_sendMarked_L5 (V N W).gv (V N W).gz (V N W).gi k).1 < 0 ∧ Snt N W c n kk d ((g_GF_sendMarked_L5 (V N W).gv (V N W).gz (V N W).gi k).1, pGF (XX (V N W)) (g_GF_sendMarked_L5 (V N W).gv (V N W).gz (V N W).gi k).2.1 (g_GF_sendMarked_L5 (V N W).gv (V N W).gz (V N W).gi k).2.2.1 (g_GF_sendMarked_L5 (V N W).gv (V N W).gz (V N W).gi k).2.2.2) (g_MD_groundSends_L65 N k)) := by
  intro k
  induction k with
  | zero =>
    refine Or.inl ⟨rfl, ?_⟩
    show g_MD_groundSends_L123 N ((N.1 0 13).toNatClampNeg) 0 = _
    rw [hcc, nI_clamp (by omega)]
  | succ k ih =>
    have e4 : (V N W).gv 4 = N.1 0 29 := rfl
    have e0 : (V N W).gv 0 = N.1 0 1 := rfl
    unfold g_GF_sendMarked_L5 g_MD_groundSends_L65
    rw [e4, e0, Nat.add_zero]
    generalize ((N.1 0 29 - nI (k + 1)) &&& 15).toNatClampNeg = j
    have ez : (V N W).gz j = N.1 24 j := rfl
    have eg : (V N W).gi j = N.2 23 j := rfl
    rw [ez, eg]
    by_cases z : N.1 24 j = 0
    · rw [if_pos z, if_pos z]; exact ih
    · rw [if_neg z, if_neg z]
      have hI : ¬ N.2 23 j < 0 := hg.2.2.2.2 j
      refine Or.inr ⟨hI, ?_⟩
      have hV : V (fl_i (fl_i N 24 j 0) 0 36 (N.1 0 1)) W = pG (V N W) (upd (V N W).gv 7 (N.1 0 1), upd (V N W).gz j 0, (V N W).gi) := by
        (simp only [V_0_36, V_24, mm_gv, mm_gz, mc_gv_gz]) <;> dsimp only [m_tm, m_cn, m_fs, m_wf, m_wg, m_wb, m_gv, m_gz, m_gi, m_cv, m_st, m_sw, m_tv, m_tw, m_rv, m_rw, p_tm, p_cn, p_fs, p_wf, p_wg, p_wb, p_gv, p_gz, p_gi, p_cv, p_st, p_sw, p_tv, p_tw, p_rv, p_rw]
        rfl
      obtain ⟨s1, s2⟩ := up_send (fl_i (fl_i N 24 j 0) 0 36 (N.1 0 1)) W (N.2 23 j) hn ((fi_0 (by decide)).trans htm) h5 hk (wu_eq hw rfl rfl rfl rfl) hkd
      have fB : FU N (fl_i (fl_i N 24 j 0) 0 36 (N.1 0 1)) := FU.of rfl rfl rfl rfl rfl rfl rfl
      have t9 : (fl_i (fl_i N 24 j 0) 0 36 (N.1 0 1)).1 9 = N.1 9 := rfl
      have t19 : (fl_i (fl_i N 24 j 0) 0 36 (N.1 0 1)).1 19 = N.1 19 := rfl
      rw [hV] at s1
      generalize fl_i (fl_i N 24 j 0) 0 36 (N.1 0 1) = B at s1 s2 fB t9 t19
      have eX : pGF (XX (V N W)) (upd (V N W).gv 7 (N.1 0 1)) (upd (V N W).gz j 0) (V N W).gi = XX (pG (V N W) (upd (V N W).gv 7 (N.1 0 1), upd (V N W).gz j 0, (V N W).gi)) := X_pGF' _ (upd (V N W).gv 7 (N.1 0 1), upd (V N W).gz j 0, (V N W).gi)
      refine Or.inl ⟨_, N.2 23 j, by rw [eX], nn_ne hI, s1, ?_, ?_, s2, fB.t (fu_send _ _), ⟨rfl, rfl, rfl, rfl, rfl, fun _ => rfl, rfl⟩⟩
      · exact ti_same h (by rw [s1]; rfl) ((send_c _ _ _ (by decide) (by decide) (by decide)).trans t9) ((send_c _ _ _ (by decide) (by decide) (by decide)).trans t19)
      · rw [s1]
        show GI (upd (V N W).gv 7 (N.1 0 1)) (V N W).gi
        exact gi_set (by decide) (by decide) (by decide) (by decide) hg
set_option maxHeartbeats 4000000 in
set_option maxRecDepth 100000 in
theorem s_gs (N : fl_M) (W : Nat → Nat → Int32) {c n kk d : Nat} (hc : c ≤ 16) (hcc : N.1 0 13 = nI c) (h : TI N W c) (hg : GI (V N W).gv (V N W).gi) (h1 : 1 ≤ d) (h5 : d ≤ 5) (hsp : N.1 0 1 = nI (2 * d + 6)) (hn : n + 1 < 2 ^ 31) (htm : N.1 0 3 = nI (n + 1)) (hk : n ≤ kk) (hw : WU N 0 n kk d) (hkd : kk < n + 1 + d) : Snt N W c n kk d (g_GR_nextInfo (XX (V N W))) (g_MD_groundSends N) := by
  have e9 : (V N W).gv 9 = N.1 0 33 := rfl
  have e5 : (V N W).gv 5 = N.1 0 30 := rfl
  have ecn : (V N W).cn = nI c := hcc
  have L := gs_L N W hc h hg h1 h5 hsp hn htm hk hw hkd c 0 (Nat.zero_add c)
  unfold g_GR_nextInfo g_MD_groundSends
  rw [X_11, X_13, X_g12, e9, X_10, ecn, nI_clamp (show c < 2 ^ 31 by omega), hcc, nI_clamp (show c < 2 ^ 31 by omega)]
  by_cases d0 : N.1 0 33 = 0
  · rw [if_pos d0, if_pos d0]
    unfold g_GF_sendMarked
    rw [e5]
    by_cases s0 : N.1 0 28 = 0
    · rw [if_pos s0]
      rcases gs_M N W hc hcc h hg h1 h5 hsp hn htm hk hw hkd (N.1 0 30).toNatClampNeg with ⟨m1, m2⟩ | ⟨m1, m2⟩
      · rw [m1, m2, if_pos (cmpE.2 rfl)]
        have eX : pGF (XX (V N W)) (V N W).gv (V N W).gz (V N W).gi = XX (V N W) := X_pGF' _ ((V N W).gv, (V N W).gz, (V N W).gi)
        show Snt N W c n kk d (g_GR_nextInfo_L47 c 0 (g_GF_hasRoom ((pGF (XX (V N W)) (V N W).gv (V N W).gz (V N W).gi).1 11) ((pGF (XX (V N W)) (V N W).gv (V N W).gz (V N W).gi).1 13) ((pGF (XX (V N W)) (V N W).gv (V N W).gz (V N W).gi).2 12)) (pGF (XX (V N W)) (V N W).gv (V N W).gz (V N W).gi)) _
        rw [eX, X_11, X_13, X_g12]
        exact L
      · rw [if_neg (fun c' => nn_ne m1 (cmpE.1 c'))]
        exact m2
    · rw [if_neg s0]
      have o0 : N.1 0 30 = 0 := hg.2.2.1 s0
      have k0 : (N.1 0 30).toNatClampNeg = 0 := by rw [o0]; rfl
      rw [k0]
      have m1 : g_GF_sendMarked_L5 (V N W).gv (V N W).gz (V N W).gi 0 = (-1, (V N W).gv, (V N W).gz, (V N W).gi) := rfl
      rw [m1, if_pos (cmpE.2 rfl)]
      have eX : pGF (XX (V N W)) (V N W).gv (V N W).gz (V N W).gi = XX (V N W) := X_pGF' _ ((V N W).gv, (V N W).gz, (V N W).gi)
      show Snt N W c n kk d (g_GR_nextInfo_L47 c 0 (g_GF_hasRoom ((pGF (XX (V N W)) (V N W).gv (V N W).gz (V N W).gi).1 11) ((pGF (XX (V N W)) (V N W).gv (V N W).gz (V N W).gi).1 13) ((pGF (XX (V N W)) (V N W).gv (V N W).gz (V N W).gi).2 12)) (pGF (XX (V N W)) (V N W).gv (V N W).gz (V N W).gi)) _
      rw [eX, X_11, X_13, X_g12]
      exact L
  · rw [if_neg d0, if_neg d0]
    unfold g_GF_sendDirective
    have e3 : (V N W).gv 3 = N.1 0 28 := rfl
    have e4 : (V N W).gv 4 = N.1 0 29 := rfl
    have e0 : (V N W).gv 0 = N.1 0 1 := rfl
    rw [e3, e4, e0]
    have hV : V (fl_i (fl_i N 0 33 0) 0 36 (N.1 0 1)) W = pG (V N W) (upd (upd (V N W).gv 9 0) 7 (N.1 0 1), (V N W).gz, (V N W).gi) := by
      (simp only [V_0_36, V_0_33, mm_gv]) <;> dsimp only [m_tm, m_cn, m_fs, m_wf, m_wg, m_wb, m_gv, m_gz, m_gi, m_cv, m_st, m_sw, m_tv, m_tw, m_rv, m_rw, p_tm, p_cn, p_fs, p_wf, p_wg, p_wb, p_gv, p_gz, p_gi, p_cv, p_st, p_sw, p_tv, p_tw, p_rv, p_rw]
      rfl
    have t1 : (fl_i N 0 33 0).1 0 1 = N.1 0 1 := fi_0 (by decide)
    rw [t1]
    have t28 : (fl_i (fl_i N 0 33 0) 0 36 (N.1 0 1)).1 0 28 = N.1 0 28 := (fi_0 (by decide)).trans (fi_0 (by decide))
    have t29 : (fl_i (fl_i N 0 33 0) 0 36 (N.1 0 1)).1 0 29 = N.1 0 29 := (fi_0 (by decide)).trans (fi_0 (by decide))
    rw [t28, t29]
    have go : ∀ x : Int64, x ≠ -1 → Snt N W c n kk d (x, pGF (XX (V N W)) (upd (upd (V N W).gv 9 0) 7 (N.1 0 1)) (V N W).gz (V N W).gi) (g_MD_sendUp (fl_i (fl_i N 0 33 0) 0 36 (N.1 0 1)) x) := by
      intro x hx
      obtain ⟨s1, s2⟩ := up_send (fl_i (fl_i N 0 33 0) 0 36 (N.1 0 1)) W x hn (((fi_0 (by decide)).trans (fi_0 (by decide))).trans htm) h5 hk (wu_eq hw rfl rfl rfl rfl) hkd
      have fB : FU N (fl_i (fl_i N 0 33 0) 0 36 (N.1 0 1)) := FU.of rfl rfl rfl rfl rfl rfl rfl
      have t9 : (fl_i (fl_i N 0 33 0) 0 36 (N.1 0 1)).1 9 = N.1 9 := rfl
      have t19 : (fl_i (fl_i N 0 33 0) 0 36 (N.1 0 1)).1 19 = N.1 19 := rfl
      rw [hV] at s1
      generalize fl_i (fl_i N 0 33 0) 0 36 (N.1 0 1) = B at s1 s2 fB t9 t19 ⊢
      have eX : pGF (XX (V N W)) (upd (upd (V N W).gv 9 0) 7 (N.1 0 1)) (V N W).gz (V N W).gi = XX (pG (V N W) (upd (upd (V N W).gv 9 0) 7 (N.1 0 1), (V N W).gz, (V N W).gi)) := X_pGF' _ (upd (upd (V N W).gv 9 0) 7 (N.1 0 1), (V N W).gz, (V N W).gi)
      refine Or.inl ⟨_, x, by rw [eX], hx, s1, ?_, ?_, s2, fB.t (fu_send _ _), ⟨rfl, rfl, rfl, rfl, rfl, fun _ => rfl, rfl⟩⟩
      · exact ti_same h (by rw [s1]; rfl) ((send_c _ _ _ (by decide) (by decide) (by decide)).trans t9) ((send_c _ _ _ (by decide) (by decide) (by decide)).trans t19)
      · rw [s1]
        show GI (upd (upd (V N W).gv 9 0) 7 (N.1 0 1)) (V N W).gi
        exact gi_set (by decide) (by decide) (by decide) (by decide) (gi_dir (Or.inl rfl) hg)
    by_cases s1 : N.1 0 28 = 1
    · rw [if_pos s1, if_pos s1]
      exact go 9007199254740992 (by decide)
    · rw [if_neg s1, if_neg s1]
      obtain ⟨x, hx, ex⟩ := hg.2.1
      have ex : N.1 0 29 = nI x := ex
      rw [ex]
      have hh : ∀ x, x < 16 → (13510798882111488 ||| j_lshl (nI x).toInt64 48 : Int64) ≠ -1 := by decide +kernel
      exact go (13510798882111488 ||| j_lshl (nI x).toInt64 48) (hh x hx)
