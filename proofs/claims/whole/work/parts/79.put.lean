/-! put -/
set_option maxHeartbeats 4000000 in
set_option maxRecDepth 100000 in
theorem p_L (N : fl_M) (W : Nat → Nat → Int32) {c f : Nat} (hc : N.1 0 13 = nI c) (hc16 : c < 16) (hf : f < 4) : ∀ k i (M : fl_M), i + k ≤ 16 → V (g_MD_put_L55 N (nI f) k i M) W = V M W ∧ (∀ q, q ≠ 9 → (g_MD_put_L55 N (nI f) k i M).1 q = M.1 q) ∧ (g_MD_put_L55 N (nI f) k i M).2 = M.2 ∧ (∀ j, i ≤ j → j < i + k → (g_MD_put_L55 N (nI f) k i M).1 9 (16 * c + j) = M.1 8 (16 * f + j)) ∧ ∀ q, (∀ j, i ≤ j → j < i + k → q ≠ 16 * c + j) → (g_MD_put_L55 N (nI f) k i M).1 9 q = M.1 9 q := by
  intro k
  induction k with
  | zero => intro i M _; exact ⟨rfl, fun _ _ => rfl, rfl, fun j h1 h2 => by omega, fun _ _ => rfl⟩
  | succ k ih =>
    intro i M hi
    have es : g_MD_put_L55 N (nI f) (k + 1) i M = g_MD_put_L55 N (nI f) k (i + 1) (fl_i M 9 (16 * c + i) (M.1 8 (16 * f + i))) := by
      show g_MD_put_L55 N (nI f) k (i + 1) (fl_i M 9 ((16 * N.1 0 13 + nI i).toNatClampNeg) (M.1 8 ((16 * nI f + nI i).toNatClampNeg))) = _
      rw [hc, ix16 hc16 (by omega), ix16 (by omega) (by omega)]
    rw [es]
    obtain ⟨h1, h2, h3, h4, h5⟩ := ih (i + 1) (fl_i M 9 (16 * c + i) (M.1 8 (16 * f + i))) (by omega)
    refine ⟨h1.trans (V_9 M W _ _), fun q hq => (h2 q hq).trans (fi_ne hq), h3, fun j hj1 hj2 => ?_, fun q hq => ?_⟩
    · by_cases e : j = i
      · rw [e, h5 _ (fun j' h1' h2' => by omega)]
        exact fi_s
      · rw [h4 j (by omega) (by omega), fi_ne (by decide)]
    · rw [h5 q (fun j' h1' h2' => hq j' (by omega) (by omega)), fi_at]
      exact pk_un (hq i (Nat.le_refl _) (by omega))
set_option maxHeartbeats 4000000 in
set_option maxRecDepth 100000 in
theorem pd_due : ∀ n, n < 17 → ((((1 : Int32) <<< (nI n &&& 31)) - 1) ||| 65536) ||| 131072 = 196608 ||| g_FL_wordsBelow (nI n) := by decide +kernel
set_option maxHeartbeats 4000000 in
set_option maxRecDepth 100000 in
theorem pd_b : ∀ n, n < 17 → ∀ k, k < 16 → (196608 ||| g_FL_wordsBelow (nI n)) &&& ((1 : Int32) <<< (nI k &&& 31)) ≠ 0 → k < n := by decide +kernel
set_option maxHeartbeats 4000000 in
set_option maxRecDepth 100000 in
theorem pd_e : ∀ n, n < 17 → ¬ (196608 ||| g_FL_wordsBelow (nI n)) &&& 131072 = 0 := by decide +kernel
set_option maxHeartbeats 4000000 in
set_option maxRecDepth 100000 in
theorem m_put (N : fl_M) (W : Nat → Nat → Int32) {n d c : Nat} (hc16 : c ≤ 16) (h : J N W n d c n n n n) (x1 x2 x3 x4 : Int32) : ∃ W' c', c' ≤ 16 ∧ (g_FL_put (XX (V N W)) x1 x2 x3 x4).1 = (g_MD_put N x1 x2 x3 x4).1 ∧ (g_FL_put (XX (V N W)) x1 x2 x3 x4).2 = XX (V (g_MD_put N x1 x2 x3 x4).2 W') ∧ J (g_MD_put N x1 x2 x3 x4).2 W' n d c' n n n n ∧ (g_MD_put N x1 x2 x3 x4).2.1 39 = N.1 39 := by
  unfold g_FL_put g_MD_put
  have e1 := bo (x := x1) (b := 4) (h := 3) rfl
  have e2 := bo (x := x2) (b := 17) (h := 16) rfl
  have e3 := bo (x := x3) (b := 4) (h := 3) rfl
  by_cases h1 : g_FL_isBelow x1 4 = 0
  · rw [if_pos h1, if_neg (e1.1 h1)]; exact ⟨W, c, hc16, rfl, rfl, h, rfl⟩
  · obtain ⟨f, hf, rfl⟩ := b_in (b := 4) (by decide) h1
    rw [if_neg h1, if_pos (Decidable.byContradiction fun c' => h1 (e1.2 c'))]
    by_cases h2 : g_FL_isBelow x2 17 = 0
    · rw [if_pos h2, if_neg (e2.1 h2)]; exact ⟨W, c, hc16, rfl, rfl, h, rfl⟩
    · obtain ⟨l, hl, rfl⟩ := b_in (b := 17) (by decide) h2
      rw [if_neg h2, if_pos (Decidable.byContradiction fun c' => h2 (e2.2 c'))]
      by_cases h3 : g_FL_isBelow x3 4 = 0
      · rw [if_pos h3, if_neg (e3.1 h3)]; exact ⟨W, c, hc16, rfl, rfl, h, rfl⟩
      · rw [if_neg h3, if_pos (Decidable.byContradiction fun c' => h3 (e3.2 c'))]
        have hcc := h.2.2.2.2.1
        have ecn : (XX (V N W)).1 10 2 = nI c := hcc
        unfold g_GR_begin
        rw [ecn, hcc]
        by_cases h4 : c = 16
        · subst h4
          rw [if_neg (show ¬ nI 16 < 16 by decide), if_pos (show nI 16 = 16 from rfl)]
          exact ⟨W, 16, hc16, rfl, rfl, h, rfl⟩
        · have hc' : c < 16 := by omega
          have lt : nI c < 16 := nI_lt (b := 16) hc' (by omega)
          have ne : ¬ nI c = 16 := fun c' => h4 ((nI_eq (a := c) (b := 16) (by omega) (by omega)).1 c')
          rw [if_pos lt, if_neg ne, clN hc', X_tv _ hc', X_tw _ hc', nI_clamp (show f < 2 ^ 31 by omega), X_fs _ hf, X_pTR _ hc', X_10, X_i10, X_10, nI_clamp (show l < 2 ^ 31 by omega)]
          dsimp only [m_tm, m_cn, m_fs, m_wf, m_wg, m_wb, m_gv, m_gz, m_gi, m_cv, m_st, m_sw, m_tv, m_tw, m_rv, m_rw, p_tm, p_cn, p_fs, p_wf, p_wg, p_wb, p_gv, p_gz, p_gi, p_cv, p_st, p_sw, p_tv, p_tw, p_rv, p_rw]
          have ecn' : (V N W).cn = nI c := hcc
          rw [ecn', nI_1]
          obtain ⟨p1, p2, p3, p4, p5⟩ := p_L N (va_up W c (va_cpy ((V N W).fs f) (W c) 0 0 16)) hcc hc' hf l 0 (fl_i N 0 13 (nI (c + 1))) (by omega)
          generalize g_MD_put_L55 N (nI f) l 0 (fl_i N 0 13 (nI (c + 1))) = P at p1 p2 p3 p4 p5
          have hV : V (fl_i (fl_i (fl_i (fl_i (fl_i P 10 c (nI l)) 11 c x3) 12 c x4) 15 c (((((1 : Int32) <<< (nI l &&& 31)) - 1) ||| 65536) ||| 131072)) 20 c 1) (va_up W c (va_cpy ((V N W).fs f) (W c) 0 0 16)) = (mkV (V N W).tm (nI (c + 1)) (V N W).fs (V N W).wf (V N W).wg (V N W).wb (V N W).gv (V N W).gz (V N W).gi (V N W).cv (V N W).st (V N W).sw (va_up (V N W).tv c (upd (upd (upd (upd (upd ((V N W).tv c) 3 (nI l)) 4 x3) 5 x4) 6 (196608 ||| g_FL_wordsBelow (nI l))) 7 1)) (va_up W c (va_cpy ((V N W).fs f) (W c) 0 0 16)) (V N W).rv (V N W).rw) := by
            rw [pd_due l hl]
            (simp only [V_20, V_15, V_12, V_11, V_10, p1, V_0_13, va_up_up, va_up_self, mm_cn, mm_tv, mc_cn_tv]) <;> dsimp only [m_tm, m_cn, m_fs, m_wf, m_wg, m_wb, m_gv, m_gz, m_gi, m_cv, m_st, m_sw, m_tv, m_tw, m_rv, m_rw, p_tm, p_cn, p_fs, p_wf, p_wg, p_wb, p_gv, p_gz, p_gi, p_cv, p_st, p_sw, p_tv, p_tw, p_rv, p_rw]
            rfl
          have z : ∀ j, j ≠ 13 → (fl_i (fl_i (fl_i (fl_i (fl_i P 10 c (nI l)) 11 c x3) 12 c x4) 15 c (((((1 : Int32) <<< (nI l &&& 31)) - 1) ||| 65536) ||| 131072)) 20 c 1).1 0 j = N.1 0 j := fun j hj => (congrFun (p2 0 (by decide)) j).trans (fi_0 hj)
          have cl : (fl_i (fl_i (fl_i (fl_i (fl_i P 10 c (nI l)) 11 c x3) 12 c x4) 15 c (((((1 : Int32) <<< (nI l &&& 31)) - 1) ||| 65536) ||| 131072)) 20 c 1).2 = N.2 := p3
          have z13 : (fl_i (fl_i (fl_i (fl_i (fl_i P 10 c (nI l)) 11 c x3) 12 c x4) 15 c (((((1 : Int32) <<< (nI l &&& 31)) - 1) ||| 65536) ||| 131072)) 20 c 1).1 0 13 = nI (c + 1) := (congrFun (p2 0 (by decide)) 13).trans fi_s
          have q2 : (fl_i (fl_i (fl_i (fl_i (fl_i P 10 c (nI l)) 11 c x3) 12 c x4) 15 c (((((1 : Int32) <<< (nI l &&& 31)) - 1) ||| 65536) ||| 131072)) 20 c 1).1 2 = N.1 2 := p2 2 (by decide)
          have q4' : (fl_i (fl_i (fl_i (fl_i (fl_i P 10 c (nI l)) 11 c x3) 12 c x4) 15 c (((((1 : Int32) <<< (nI l &&& 31)) - 1) ||| 65536) ||| 131072)) 20 c 1).1 4 = N.1 4 := p2 4 (by decide)
          have q9 : (fl_i (fl_i (fl_i (fl_i (fl_i P 10 c (nI l)) 11 c x3) 12 c x4) 15 c (((((1 : Int32) <<< (nI l &&& 31)) - 1) ||| 65536) ||| 131072)) 20 c 1).1 9 = P.1 9 := rfl
          have q19 : (fl_i (fl_i (fl_i (fl_i (fl_i P 10 c (nI l)) 11 c x3) 12 c x4) 15 c (((((1 : Int32) <<< (nI l &&& 31)) - 1) ||| 65536) ||| 131072)) 20 c 1).1 19 = N.1 19 := p2 19 (by decide)
          have q39 : (fl_i (fl_i (fl_i (fl_i (fl_i P 10 c (nI l)) 11 c x3) 12 c x4) 15 c (((((1 : Int32) <<< (nI l &&& 31)) - 1) ||| 65536) ||| 131072)) 20 c 1).1 39 = N.1 39 := p2 39 (by decide)
          generalize fl_i (fl_i (fl_i (fl_i (fl_i P 10 c (nI l)) 11 c x3) 12 c x4) 15 c (((((1 : Int32) <<< (nI l &&& 31)) - 1) ||| 65536) ||| 131072)) 20 c 1 = N' at hV z cl z13 q2 q4' q9 q19 q39
          obtain ⟨a1, a2, a3, a4, a5, a6, a7, a8, a9, a10, a11⟩ := h
          refine ⟨va_up W c (va_cpy ((V N W).fs f) (W c) 0 0 16), c + 1, by omega, ?_, ?_, ⟨(z 3 (by decide)).trans a1, (z 0 (by decide)).trans a2, (z 1 (by decide)).trans a3, by rw [cl]; exact a4, z13, ?_, ?_, ?_, wu_eq a9 q2 (by rw [cl]) (by rw [cl]) q4', wu_eq a10 q2 (by rw [cl]) (by rw [cl]) q4', by rw [z 38 (by decide)]; exact a11⟩, q39⟩
          · show nI (c + 1) - 1 = nI c
            exact nI_pred c
          · rw [hV]
            unfold g_TR_begin
            rfl
          · intro s hs
            have e : (V N' (va_up W c (va_cpy ((V N W).fs f) (W c) 0 0 16))).rv = (V N W).rv := by rw [hV]; rfl
            rw [e]; exact a6 s hs
          · intro s hs
            have e : (V N' (va_up W c (va_cpy ((V N W).fs f) (W c) 0 0 16))).tv = va_up (V N W).tv c (upd (upd (upd (upd (upd ((V N W).tv c) 3 (nI l)) 4 x3) 5 x4) 6 (196608 ||| g_FL_wordsBelow (nI l))) 7 1) := by rw [hV]; rfl
            rw [e, q19]
            by_cases hsc : s = c
            · subst hsc
              rw [va_up_self, va_up_self]
              have es0 : N.1 19 s = 0 := (a7 s hs).2.1 (by omega)
              rw [es0]
              refine ⟨⟨l, by omega, rfl, fun k hk hb => pd_b l hl k hk hb, fun k hk => ?_⟩, fun _ => rfl, fun _ _ => ⟨⟨fun c' => absurd rfl c', fun c' => absurd c' (pd_e l hl)⟩, fun c' => absurd rfl c'⟩⟩
              show va_cpy ((V N W).fs f) (W s) 0 0 16 k = N'.1 9 (16 * s + k)
              rw [q9, p4 k (by omega) (by omega), fi_ne (by decide)]
              unfold va_cpy
              rw [if_pos (by omega), show 0 + (k - 0) = k by omega]
              exact if_pos (by omega)
            · rw [va_up_ne _ _ hsc, va_up_ne _ _ hsc]
              obtain ⟨⟨m, m1, m2, m3, m4⟩, m5, m6⟩ := a7 s hs
              refine ⟨⟨m, m1, m2, m3, fun k hk => ?_⟩, fun hh => m5 (by omega), fun hh => m6 (by omega)⟩
              rw [m4 k hk]
              show N.1 9 (16 * s + k) = N'.1 9 (16 * s + k)
              rw [q9, p5 _ (fun j hj1 hj2 => by omega), fi_ne (by decide)]
          · have eg : (V N' (va_up W c (va_cpy ((V N W).fs f) (W c) 0 0 16))).gv = (V N W).gv ∧ (V N' (va_up W c (va_cpy ((V N W).fs f) (W c) 0 0 16))).gi = (V N W).gi := by rw [hV]; exact ⟨rfl, rfl⟩
            rw [eg.1, eg.2]; exact a8
