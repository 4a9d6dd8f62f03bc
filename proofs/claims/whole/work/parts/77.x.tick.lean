/-! a tick, step by step -/
set_option maxHeartbeats 4000000 in
set_option maxRecDepth 100000 in
theorem q4_go {f : Nat → Int32} {a b : Int32} (hf : q4 (f 0)) (hb : q4 b) : q4 ((g_CF_giveOn f a b).2 0) := by
  have h1 : q4 ((g_CF_giveOnInOrder f b).2 0) := by
    unfold g_CF_giveOnInOrder
    split
    · exact q4_and _
    · split
      · split
        · exact hf
        · exact hf
      · exact hf
  unfold g_CF_giveOn
  split
  · split
    · split
      · exact h1
      · exact h1
    · exact hf
  · split
    · exact hf
    · split
      · exact hf
      · split
        · split
          · exact hb
          · exact hf
        · exact hf
set_option maxHeartbeats 4000000 in
set_option maxRecDepth 100000 in
/-- what the craft's hearing leaves -/
theorem ct_ex (v : Vw) (x : Int64) (h : ∀ s, s < 16 → RV (v.rv s) ∧ L7 (v.rv s)) (hq : q4 (v.cv 0)) : ∃ v', g_CT_hear (XX v) x = XX v' ∧ (∀ s, s < 16 → RV (v'.rv s) ∧ L7 (v'.rv s)) ∧ q4 (v'.cv 0) := by
  by_cases hx : lg_cmp x (-1) = 0
  · refine ⟨v, ?_, h, hq⟩
    unfold g_CT_hear
    rw [if_pos hx]
  · obtain ⟨k, hk, eK⟩ := q4_f x 44
    obtain ⟨t, ht, eT⟩ := q4_f x 40
    obtain ⟨p, hp, eP⟩ : ∃ p, p < 256 ∧ ((j_lushr x 32).toInt32) &&& 255 = nI p := pk_andE _ 8 rfl
    have hqq : q4 ((g_CF_giveOn v.cv (g_FL_fourBitsAt x 52) (g_FL_fourBitsAt x 48)).2 0) := q4_go hq (q4_fb _ _)
    by_cases hg : (g_CF_giveOn v.cv (g_FL_fourBitsAt x 52) (g_FL_fourBitsAt x 48)).1 = 0
    · exact ⟨_, ct_no v x hx hg, h, hqq⟩
    · rw [ct_pdu v x ht eT eK eP hx hg]
      have hr := rv_hear (w := v.rw t) (x := x.toInt32) hk hp (h t ht).1 (h t ht).2
      generalize g_CR_hear (v.rv t) (v.rw t) (nI k) (nI p) x.toInt32 = T at hr
      have hs : ∀ s, s < 16 → RV (va_up v.rv t T.2.1 s) ∧ L7 (va_up v.rv t T.2.1 s) := by
        intro s hs
        by_cases e : s = t
        · rw [e, va_up_self]; exact hr
        · rw [va_up_ne _ _ e]; exact h s hs
      unfold aft
      by_cases h0 : T.1 = 0
      · rw [if_pos h0]
        exact ⟨_, rfl, hs, hqq⟩
      · rw [if_neg h0]
        obtain ⟨m, hm, h6⟩ := vp_in_of hr.1.ri.1 (by decide)
        have h5 : T.2.1 5 = nI (T.2.1 5).toNatClampNeg := hr.1.ri.2.1
        refine ⟨_, kp_X _ ht hm hr.1.ri.2.2 ?_ ?_, hs, hqq⟩
        · exact (congrFun (va_up_self v.rv t T.2.1) 6).trans h6
        · exact (congrFun (va_up_self v.rv t T.2.1) 5).trans h5
set_option maxHeartbeats 4000000 in
set_option maxRecDepth 100000 in
theorem yG_p {N N' : fl_M} (h : ∀ j, j = 1 ∨ (28 ≤ j ∧ j < 38) → N'.1 0 j = N.1 0 j) : yG N' = yG N := by
  unfold yG
  rw [h 1 (Or.inl rfl), h 28 (Or.inr (by omega)), h 29 (Or.inr (by omega)), h 30 (Or.inr (by omega)), h 33 (Or.inr (by omega)), h 34 (Or.inr (by omega)), h 35 (Or.inr (by omega)), h 36 (Or.inr (by omega)), h 37 (Or.inr (by omega))]
set_option maxHeartbeats 4000000 in
set_option maxRecDepth 100000 in
/-- what a step of the craft leaves of J -/
theorem j_craft {N N' : fl_M} {W : Nat → Nat → Int32} {n d c m0 k0 m1 k1 : Nat} (h : J N W n d c m0 k0 m1 k1) (k : K Sc Zc N N') (hr : RA N' W) (hq : q4 (N'.1 0 38)) : J N' W n d c m0 k0 m1 k1 := by
  obtain ⟨a1, a2, a3, a4, a5, a6, a7, a8, a9, a10, a11⟩ := h
  obtain ⟨k1, k2, k3⟩ := k
  have et : (V N' W).tv = (V N W).tv := yT_c (k2 1 (by decide)) (fun c h1 h2 _ => k1 c (by unfold Sc; simp only [decide_eq_true_eq]; omega))
  have eg : (V N' W).gv = (V N W).gv := yG_p (fun j hj => k2 j (by unfold Zc; simp only [decide_eq_true_eq]; omega))
  have ei : (V N' W).gi = (V N W).gi := by show N'.2 23 = N.2 23; rw [k3]
  exact ⟨(k2 3 (by decide)).trans a1, (k2 0 (by decide)).trans a2, (k2 1 (by decide)).trans a3, by rw [k3]; exact a4, (k2 13 (by decide)).trans a5, hr, ti_same a7 et (k1 9 (by decide)) (k1 19 (by decide)), by rw [eg, ei]; exact a8, wu_eq a9 (k1 2 (by decide)) (by rw [k3]) (by rw [k3]) (k1 4 (by decide)), wu_eq a10 (k1 2 (by decide)) (by rw [k3]) (by rw [k3]) (k1 4 (by decide)), hq⟩
set_option maxHeartbeats 4000000 in
set_option maxRecDepth 100000 in
theorem j2 (N : fl_M) (W : Nat → Nat → Int32) {n d c m0 k0 m1 k1 : Nat} (x : Int64) (hx : x = -1 ∨ ¬ x < 0) (h : J N W n d c m0 k0 m1 k1) : J (if lg_cmp x 0 < 0 then N else g_MD_craftFrame N x) W n d c m0 k0 m1 k1 ∧ g_CT_hear (XX (V N W)) x = XX (V (if lg_cmp x 0 < 0 then N else g_MD_craftFrame N x) W) := by
  rcases hx with hx | hx
  · rw [if_pos (cmp_lt0.2 (by rw [hx]; decide))]
    refine ⟨h, ?_⟩
    unfold g_CT_hear
    rw [if_pos (cmpE.2 hx)]
  · rw [if_neg (fun c' => hx (cmp_lt0.1 c'))]
    have hra := h.2.2.2.2.2.1
    have e := s_frame N W x (nn_ne hx) (fun t ht => (hra t ht).1) (fun t ht => (hra t ht).2)
    obtain ⟨v', e1, e2, e3⟩ := ct_ex (V N W) x hra h.2.2.2.2.2.2.2.2.2.2
    have ee : XX (V (g_MD_craftFrame N x) W) = XX v' := e.symm.trans e1
    refine ⟨j_craft h (k_frm K.r x) (fun s hs => ?_) ?_, e⟩
    · have : (V (g_MD_craftFrame N x) W).rv s = v'.rv s := by rw [← X_rv _ hs, ← X_rv v' hs, ee]
      rw [this]; exact e2 s hs
    · have : (V (g_MD_craftFrame N x) W).cv = v'.cv := by rw [← X_16, ← X_16 v', ee]
      show q4 ((V (g_MD_craftFrame N x) W).cv 0)
      rw [this]; exact e3
set_option maxHeartbeats 4000000 in
set_option maxRecDepth 100000 in
theorem j3 (N : fl_M) (W : Nat → Nat → Int32) {n d c m0 k0 m1 k1 : Nat} (h : J N W n d c m0 k0 m1 k1) : J (g_MD_tick_L29 16 0 N) W n d c m0 k0 m1 k1 ∧ g_CT_stepClocks (XX (V N W)) = XX (V (g_MD_tick_L29 16 0 N) W) := by
  have s := s_clL W 16 0 N (by omega) h.2.2.2.2.2.1
  have k38 : (g_MD_tick_L29 16 0 N).1 0 38 = N.1 0 38 := by
    have hc : ∀ (M : fl_M) (x : Int32), (g_MD_craftClocks M x).1 0 38 = M.1 0 38 := by
      intro M x
      unfold g_MD_craftClocks
      split
      · split
        · rfl
        · split
          · rfl
          · split
            · split
              · rfl
              · rfl
            · rfl
      · split
        · split
          · split
            · rfl
            · rfl
          · rfl
        · rfl
    have hl : ∀ k i (M : fl_M), (g_MD_tick_L29 k i M).1 0 38 = M.1 0 38 := by
      intro k
      induction k with
      | zero => intro i M; rfl
      | succ k ih => intro i M; exact (ih _ _).trans (hc M _)
    exact hl 16 0 N
  refine ⟨j_craft h (k_c29 16 0 N K.r) s.2 (by rw [k38]; exact h.2.2.2.2.2.2.2.2.2.2), s.1⟩
