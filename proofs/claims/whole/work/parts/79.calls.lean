/-! the calls that change something -/
set_option maxHeartbeats 4000000 in
set_option maxRecDepth 100000 in
theorem j_of {N N' : fl_M} {W : Nat → Nat → Int32} {n d c m0 k0 m1 k1 : Nat} (h : J N W n d c m0 k0 m1 k1) (z : N'.1 0 = N.1 0) (l0 : N'.2 0 = N.2 0) (er : (V N' W).rv = (V N W).rv) (ht : TI N' W c) (eg : (V N' W).gi = (V N W).gi) (w0 : WU N' 0 m0 k0 d) (w1 : WU N' 1 m1 k1 d) : J N' W n d c m0 k0 m1 k1 := by
  obtain ⟨a1, a2, a3, a4, a5, a6, a7, a8, a9, a10, a11⟩ := h
  have e : (V N' W).gv = (V N W).gv := yG_c z
  exact ⟨by rw [z]; exact a1, by rw [z]; exact a2, by rw [z]; exact a3, by rw [l0]; exact a4, by rw [z]; exact a5, ra_same a6 er, ht, by rw [e, eg]; exact a8, w0, w1, by rw [z]; exact a11⟩
set_option maxHeartbeats 4000000 in
set_option maxRecDepth 100000 in
theorem m_write (N : fl_M) (W : Nat → Nat → Int32) {n d c : Nat} (h : J N W n d c n n n n) (x1 x2 x3 : Int32) : (g_FL_write (XX (V N W)) x1 x2 x3).1 = (g_MD_write N x1 x2 x3).1 ∧ (g_FL_write (XX (V N W)) x1 x2 x3).2 = XX (V (g_MD_write N x1 x2 x3).2 W) ∧ J (g_MD_write N x1 x2 x3).2 W n d c n n n n ∧ (g_MD_write N x1 x2 x3).2.1 39 = N.1 39 := by
  unfold g_FL_write g_MD_write
  have e1 := bo (x := x1) (b := 4) (h := 3) rfl
  have e2 := bo (x := x2) (b := 16) (h := 15) rfl
  by_cases h1 : g_FL_isBelow x1 4 = 0
  · rw [if_pos h1, if_neg (e1.1 h1)]; exact ⟨rfl, rfl, h, rfl⟩
  · obtain ⟨f, hf, rfl⟩ := b_in (b := 4) (by decide) h1
    rw [if_neg h1, if_pos (Decidable.byContradiction fun c' => h1 (e1.2 c'))]
    by_cases h2 : g_FL_isBelow x2 16 = 0
    · rw [if_pos h2, if_neg (e2.1 h2)]; exact ⟨rfl, rfl, h, rfl⟩
    · obtain ⟨k, hk, rfl⟩ := b_in (b := 16) (by decide) h2
      rw [if_neg h2, if_pos (Decidable.byContradiction fun c' => h2 (e2.2 c')), ix16 (by omega) hk, nI_clamp (show f < 2 ^ 31 by omega), clN hk]
      have hV := V_8 N W f hk x3
      refine ⟨rfl, ?_, ?_, rfl⟩
      · show fl_i (XX (V N W)) (2 + f) k x3 = _
        rw [X_i2 _ hf, hV]; rfl
      · exact j_of h rfl rfl (by rw [hV]; rfl) (ti_same h.2.2.2.2.2.2.1 (by rw [hV]; rfl) rfl rfl) rfl (wu_eq h.2.2.2.2.2.2.2.2.1 rfl rfl rfl rfl) (wu_eq h.2.2.2.2.2.2.2.2.2.1 rfl rfl rfl rfl)
set_option maxHeartbeats 4000000 in
set_option maxRecDepth 100000 in
theorem run_0 (N : fl_M) {c j : Nat} (hc : N.1 0 13 = nI c) (hj : j < c) (hc16 : c ≤ 16) : (g_MD_running N (nI j) = 0) ↔ ¬ N.1 13 j = 0 := by
  unfold g_MD_running
  rw [if_neg (nI_pos (by omega)), hc, if_neg (nI_ge hj (by omega)), clN (by omega)]
  by_cases h : N.1 13 j = 0
  · rw [if_pos h]; exact ⟨fun c' => absurd c' (by decide), fun c' => absurd h c'⟩
  · rw [if_neg h]; exact ⟨fun _ => h, fun _ => rfl⟩
set_option maxHeartbeats 4000000 in
set_option maxRecDepth 100000 in
theorem run_n (N : fl_M) (x : Int32) (h : x < 0 ∨ N.1 0 13 ≤ x) : g_MD_running N x = 0 := by
  unfold g_MD_running
  by_cases h0 : x < 0
  · rw [if_pos h0]
  · rw [if_neg h0, if_pos (h.resolve_left h0)]
set_option maxHeartbeats 4000000 in
set_option maxRecDepth 100000 in
theorem m_cancel (N : fl_M) (W : Nat → Nat → Int32) {n d c : Nat} (hc16 : c ≤ 16) (h : J N W n d c n n n n) (x1 : Int32) : (g_FL_cancel (XX (V N W)) x1).1 = (g_MD_cancel N x1).1 ∧ (g_FL_cancel (XX (V N W)) x1).2 = XX (V (g_MD_cancel N x1).2 W) ∧ J (g_MD_cancel N x1).2 W n d c n n n n ∧ (g_MD_cancel N x1).2.1 39 = N.1 39 := by
  unfold g_FL_cancel g_MD_cancel
  rcases q_has N W h.2.2.2.2.1 hc16 x1 with ⟨a, b⟩ | ⟨a, b, b', j, hj, rfl⟩
  · rw [if_pos a, if_pos (run_n N x1 b)]; exact ⟨rfl, rfl, h, rfl⟩
  · have hj16 : j < 16 := by omega
    rw [if_neg a]
    unfold hg_TR_becomeCancelled g_TR_becomeCancelled
    rw [clN hj16, X_tv _ hj16, X_tw _ hj16, X_pTR _ hj16]
    have e14 : (V N W).tv j 14 = N.1 13 j := rfl
    have e12 : (V N W).tv j 12 = N.1 16 j := rfl
    rw [e14, e12]
    have hr := run_0 N h.2.2.2.2.1 hj hc16
    have same : XX (mkV (V N W).tm (V N W).cn (V N W).fs (V N W).wf (V N W).wg (V N W).wb (V N W).gv (V N W).gz (V N W).gi (V N W).cv (V N W).st (V N W).sw (va_up (V N W).tv j ((V N W).tv j)) (va_up (V N W).tw j ((V N W).tw j)) (V N W).rv (V N W).rw) = XX (V N W) := by rw [va_up_id, va_up_id]; rfl
    by_cases h1 : N.1 13 j = 0
    · rw [if_pos h1, if_neg (fun c' => (hr.1 c') h1)]
      by_cases h2 : N.1 16 j = 0
      · rw [if_pos h2, if_pos h2, if_neg (show ¬ (1 : Int32) = 0 by decide)]
        have hV : V (fl_i (fl_i (g_MD_makeEndDue (fl_i (fl_i N 16 j 1) 15 j 0) (nI j)) 20 j 1) 17 j 0) W = (mkV (V N W).tm (V N W).cn (V N W).fs (V N W).wf (V N W).wg (V N W).wb (V N W).gv (V N W).gz (V N W).gi (V N W).cv (V N W).st (V N W).sw (va_up (V N W).tv j (upd (upd (upd (upd ((V N W).tv j) 12 1) 6 131072) 7 1) 11 0)) (V N W).tw (V N W).rv (V N W).rw) := by
          unfold g_MD_makeEndDue
          (simp only [V_19, V_15, V_20, V_16, V_17, va_up_up, clN hj16, va_up_self, fi_s, mm_tv]) <;> dsimp only [m_tm, m_cn, m_fs, m_wf, m_wg, m_wb, m_gv, m_gz, m_gi, m_cv, m_st, m_sw, m_tv, m_tw, m_rv, m_rw, p_tm, p_cn, p_fs, p_wf, p_wg, p_wb, p_gv, p_gz, p_gi, p_cv, p_st, p_sw, p_tv, p_tw, p_rv, p_rw]
          rw [show (0 : Int32) ||| 131072 = 131072 from rfl]
          exact V_tv (funext fun i => match i with | 0 => rfl | 1 => rfl | 2 => rfl | 3 => rfl | 4 => rfl | 5 => rfl | 6 => rfl | 7 => rfl | 8 => rfl | 9 => rfl | 10 => rfl | 11 => rfl | 12 => rfl | 13 => rfl | 14 => rfl | n + 15 => rfl)
        have h19 : ∀ s, s ≠ j → (fl_i (fl_i (g_MD_makeEndDue (fl_i (fl_i N 16 j 1) 15 j 0) (nI j)) 20 j 1) 17 j 0).1 19 s = N.1 19 s := by
          intro s hs
          unfold g_MD_makeEndDue
          rw [clN hj16, fi_ne (by decide), fi_ne (by decide), fi_at]
          exact pk_un hs
        have e19 : (fl_i (fl_i (g_MD_makeEndDue (fl_i (fl_i N 16 j 1) 15 j 0) (nI j)) 20 j 1) 17 j 0).1 19 j = 0 := by
          unfold g_MD_makeEndDue
          rw [clN hj16, fi_ne (by decide), fi_ne (by decide)]
          exact fi_s
        have hp := h.2.2.2.2.2.2.1 j hj16
        refine ⟨rfl, ?_, ?_, rfl⟩
        · show XX _ = XX _
          rw [hV, va_up_id]
        · refine j_of h rfl rfl (by rw [hV]; rfl) (ti_up h.2.2.2.2.2.2.1 (t := j) (f := upd (upd (upd (upd ((V N W).tv j) 12 1) 6 131072) 7 1) 11 0) (by rw [hV]; rfl) rfl h19 ?_) rfl (wu_eq h.2.2.2.2.2.2.2.2.1 rfl rfl rfl rfl) (wu_eq h.2.2.2.2.2.2.2.2.2.1 rfl rfl rfl rfl)
          rw [e19]
          obtain ⟨⟨m, p1, p2, p3, p4⟩, p5, p6⟩ := hp
          exact ⟨⟨m, p1, p2, fun k hk hb => absurd (bk_lo k hk).2.1 hb, p4⟩, fun _ => rfl, fun _ _ => ⟨⟨fun c' => absurd rfl c', fun c' => absurd c' (show ¬ (131072 : Int32) &&& 131072 = 0 by decide)⟩, fun c' => absurd rfl c'⟩⟩
      · rw [if_neg h2, if_neg h2, if_pos (show (0 : Int32) = 0 from rfl)]
        exact ⟨rfl, same, h, rfl⟩
    · rw [if_neg h1, if_pos (hr.2 h1), if_pos (show (0 : Int32) = 0 from rfl)]
      exact ⟨rfl, same, h, rfl⟩
set_option maxHeartbeats 4000000 in
set_option maxRecDepth 100000 in
theorem m_suspend (N : fl_M) (W : Nat → Nat → Int32) {n d c : Nat} (hc16 : c ≤ 16) (h : J N W n d c n n n n) (x1 x2 : Int32) : (g_FL_suspend (XX (V N W)) x1 x2).1 = (g_MD_suspend N x1 x2).1 ∧ (g_FL_suspend (XX (V N W)) x1 x2).2 = XX (V (g_MD_suspend N x1 x2).2 W) ∧ J (g_MD_suspend N x1 x2).2 W n d c n n n n ∧ (g_MD_suspend N x1 x2).2.1 39 = N.1 39 := by
  unfold g_FL_suspend g_MD_suspend
  rcases q_has N W h.2.2.2.2.1 hc16 x1 with ⟨a, b⟩ | ⟨a, b, b', j, hj, rfl⟩
  · rw [if_pos a, if_pos (run_n N x1 b)]; exact ⟨rfl, rfl, h, rfl⟩
  · have hj16 : j < 16 := by omega
    rw [if_neg a]
    unfold hg_TR_becomeSuspended g_TR_becomeSuspended
    rw [clN hj16, X_tv _ hj16, X_tw _ hj16, X_pTR _ hj16]
    have e14 : (V N W).tv j 14 = N.1 13 j := rfl
    have e13 : (V N W).tv j 13 = N.1 18 j := rfl
    rw [e14, e13]
    have hr := run_0 N h.2.2.2.2.1 hj hc16
    have same : XX (mkV (V N W).tm (V N W).cn (V N W).fs (V N W).wf (V N W).wg (V N W).wb (V N W).gv (V N W).gz (V N W).gi (V N W).cv (V N W).st (V N W).sw (va_up (V N W).tv j ((V N W).tv j)) (va_up (V N W).tw j ((V N W).tw j)) (V N W).rv (V N W).rw) = XX (V N W) := by rw [va_up_id, va_up_id]; rfl
    by_cases h1 : N.1 13 j = 0
    · rw [if_pos h1, if_neg (fun c' => (hr.1 c') h1)]
      by_cases h2 : N.1 18 j = x2
      · rw [if_pos h2, if_pos h2, if_pos (show (0 : Int32) = 0 from rfl)]
        exact ⟨rfl, same, h, rfl⟩
      · rw [if_neg h2, if_neg h2, if_neg (show ¬ (1 : Int32) = 0 by decide)]
        have hV : V (fl_i N 18 j x2) W = (mkV (V N W).tm (V N W).cn (V N W).fs (V N W).wf (V N W).wg (V N W).wb (V N W).gv (V N W).gz (V N W).gi (V N W).cv (V N W).st (V N W).sw (va_up (V N W).tv j (upd ((V N W).tv j) 13 x2)) (V N W).tw (V N W).rv (V N W).rw) := V_18 N W j x2
        refine ⟨rfl, ?_, ?_, rfl⟩
        · show XX _ = XX _
          rw [hV, va_up_id]
        · exact j_of h rfl rfl (by rw [hV]; rfl) (ti_up h.2.2.2.2.2.2.1 (t := j) (f := upd ((V N W).tv j) 13 x2) (by rw [hV]; rfl) rfl (fun _ _ => rfl) (tp_u (by decide) (by decide) (by decide) (by decide) (h.2.2.2.2.2.2.1 j hj16))) rfl (wu_eq h.2.2.2.2.2.2.2.2.1 rfl rfl rfl rfl) (wu_eq h.2.2.2.2.2.2.2.2.2.1 rfl rfl rfl rfl)
    · rw [if_neg h1, if_pos (hr.2 h1), if_pos (show (0 : Int32) = 0 from rfl)]
      exact ⟨rfl, same, h, rfl⟩
set_option maxHeartbeats 4000000 in
set_option maxRecDepth 100000 in
theorem wu_n {N N' : fl_M} {u m n d : Nat} (h : WU N u m n d) (e2 : N'.1 2 = N.1 2) (e1 : N'.2 1 = N.2 1) (e3 : N'.2 3 u &&& mkU u = N'.2 3 u) (e4 : ¬ N'.1 4 u < 0) : WU N' u m n d := by
  unfold WU
  rw [e2, e1]
  exact ⟨h.1, h.2.1, e3, e4⟩
set_option maxHeartbeats 4000000 in
set_option maxRecDepth 100000 in
theorem m_noise (N : fl_M) (W : Nat → Nat → Int32) {n d c : Nat} (h : J N W n d c n n n n) (x1 : Int32) (x2 : Int64) : g_FL_noise (XX (V N W)) x1 x2 = XX (V (g_MD_noise N x1 x2) W) ∧ J (g_MD_noise N x1 x2) W n d c n n n n ∧ (g_MD_noise N x1 x2).1 39 = N.1 39 := by
  have w0 := h.2.2.2.2.2.2.2.2.1
  have w1 := h.2.2.2.2.2.2.2.2.2.1
  unfold g_FL_noise g_MD_noise g_FL_way hg_WY_turnNext
  by_cases h1 : x1 = 0
  · rw [if_pos h1, if_pos h1]
    have hV := V_l3 N W 1 (N.2 3 1 ^^^ (x2 &&& 1152921504606846975))
    refine ⟨?_, ?_, rfl⟩
    · unfold g_WY_turnNext
      rw [X_8, X_g8, X_g9, if_pos (show (V N W).wf 1 0 = 0 from rfl), X_pW8]
      show _ = XX (V (fl_l N 3 1 (N.2 3 1 ^^^ (x2 &&& 1152921504606846975))) W)
      rw [hV, va_up_id, va_up_id]
      rfl
    · refine j_of h rfl rfl rfl (ti_same h.2.2.2.2.2.2.1 rfl rfl rfl) rfl (wu_n w0 rfl rfl ?_ w0.ou) (wu_n w1 rfl rfl ?_ w1.ou)
      · show (fl_l N 3 1 _).2 3 0 &&& _ = (fl_l N 3 1 _).2 3 0
        rw [fl1_at]; exact w0.no
      · show (fl_l N 3 1 (N.2 3 1 ^^^ (x2 &&& 1152921504606846975))).2 3 1 &&& _ = (fl_l N 3 1 (N.2 3 1 ^^^ (x2 &&& 1152921504606846975))).2 3 1
        rw [fl1_at, show vp_updL (N.2 3) 1 (N.2 3 1 ^^^ (x2 &&& 1152921504606846975)) 1 = N.2 3 1 ^^^ (x2 &&& 1152921504606846975) from rfl, x_land, w1.no, show mkU 1 = 1152921504606846975 from rfl, Int64.and_assoc, Int64.and_self]
  · rw [if_neg h1, if_neg h1]
    have hV := V_l3 N W 0 (N.2 3 0 ^^^ (x2 &&& 9223372036854775807))
    refine ⟨?_, ?_, rfl⟩
    · unfold g_WY_turnNext
      rw [X_6, X_g6, X_g7, if_neg (show ¬ (V N W).wf 0 0 = 0 from by show ¬ (1 : Int32) = 0; decide), X_pW6]
      show _ = XX (V (fl_l N 3 0 (N.2 3 0 ^^^ (x2 &&& 9223372036854775807))) W)
      rw [hV, va_up_id, va_up_id]
      rfl
    · refine j_of h rfl rfl rfl (ti_same h.2.2.2.2.2.2.1 rfl rfl rfl) rfl (wu_n w0 rfl rfl ?_ w0.ou) (wu_n w1 rfl rfl ?_ w1.ou)
      · show (fl_l N 3 0 (N.2 3 0 ^^^ (x2 &&& 9223372036854775807))).2 3 0 &&& _ = (fl_l N 3 0 (N.2 3 0 ^^^ (x2 &&& 9223372036854775807))).2 3 0
        rw [fl1_at, show vp_updL (N.2 3) 0 (N.2 3 0 ^^^ (x2 &&& 9223372036854775807)) 0 = N.2 3 0 ^^^ (x2 &&& 9223372036854775807) from rfl, x_land, w0.no, show mkU 0 = 9223372036854775807 from rfl, Int64.and_assoc, Int64.and_self]
      · show (fl_l N 3 0 _).2 3 1 &&& _ = (fl_l N 3 0 _).2 3 1
        rw [fl1_at]; exact w1.no
set_option maxHeartbeats 4000000 in
set_option maxRecDepth 100000 in
theorem m_outage (N : fl_M) (W : Nat → Nat → Int32) {n d c : Nat} (h : J N W n d c n n n n) (x1 x2 : Int32) : (g_FL_outage (XX (V N W)) x1 x2).1 = (g_MD_outage N x1 x2).1 ∧ (g_FL_outage (XX (V N W)) x1 x2).2 = XX (V (g_MD_outage N x1 x2).2 W) ∧ J (g_MD_outage N x1 x2).2 W n d c n n n n ∧ (g_MD_outage N x1 x2).2.1 39 = N.1 39 := by
  have w0 := h.2.2.2.2.2.2.2.2.1
  have w1 := h.2.2.2.2.2.2.2.2.2.1
  unfold g_FL_outage g_MD_outage g_FL_way
  have e1 := bo (x := x2) (b := 201) (h := 200) rfl
  by_cases h1 : g_FL_isBelow x2 201 = 0
  · rw [if_pos h1, if_neg (e1.1 h1)]; exact ⟨rfl, rfl, h, rfl⟩
  · obtain ⟨k, hk, rfl⟩ := b_in (b := 201) (by decide) h1
    rw [if_neg h1, if_pos (Decidable.byContradiction fun c' => h1 (e1.2 c'))]
    have hnn : ¬ nI k < 0 := nI_pos (by omega)
    by_cases h2 : x1 = 0
    · rw [if_pos h2, if_pos h2]
      have hV := V_4 N W 1 (nI k)
      refine ⟨rfl, ?_, ?_, rfl⟩
      · show fl_i (XX (V N W)) 8 4 (nI k) = XX (V (fl_i N 4 1 (nI k)) W)
        rw [X_i8, hV]; rfl
      · refine j_of h rfl rfl rfl (ti_same h.2.2.2.2.2.2.1 rfl rfl rfl) rfl (wu_n w0 rfl rfl w0.no ?_) (wu_n w1 rfl rfl w1.no ?_)
        · show ¬ (fl_i N 4 1 (nI k)).1 4 0 < 0
          rw [fi_at, pk_un (by decide)]; exact w0.ou
        · show ¬ (fl_i N 4 1 (nI k)).1 4 1 < 0
          rw [fi_s]; exact hnn
    · rw [if_neg h2, if_neg h2]
      have hV := V_4 N W 0 (nI k)
      refine ⟨rfl, ?_, ?_, rfl⟩
      · show fl_i (XX (V N W)) 6 4 (nI k) = XX (V (fl_i N 4 0 (nI k)) W)
        rw [X_i6, hV]; rfl
      · refine j_of h rfl rfl rfl (ti_same h.2.2.2.2.2.2.1 rfl rfl rfl) rfl (wu_n w0 rfl rfl w0.no ?_) (wu_n w1 rfl rfl w1.no ?_)
        · show ¬ (fl_i N 4 0 (nI k)).1 4 0 < 0
          rw [fi_s]; exact hnn
        · show ¬ (fl_i N 4 0 (nI k)).1 4 1 < 0
          rw [fi_at, pk_un (by decide)]; exact w1.ou
