/-! a tick, step by step: the blocks, the ground -/
set_option maxHeartbeats 4000000 in
set_option maxRecDepth 100000 in
theorem s_ge8 (x : Int32) : 8 ≤ (8 * 1 + (x &&& 7) : Int32).toNatClampNeg := slot1 x
set_option maxHeartbeats 4000000 in
set_option maxRecDepth 100000 in
theorem send_dn {A : fl_M} {m n d : Nat} (B : Int64) (h : WU A 0 m n d) : WU (g_MD_send A 1 B) 0 m n d := by
  have hl := s_ge8 (A.1 0 3)
  unfold g_MD_send
  generalize (8 * 1 + (A.1 0 3 &&& 7) : Int32).toNatClampNeg = s at hl
  have key : ∀ (x y z : Int32) (b c : Int64), WU (fl_i (fl_i (fl_i (fl_l (fl_l A 1 s b) 3 1 c) 2 s x) 4 1 y) 5 1 z) 0 m n d := by
    intro x y z b c
    refine wu_dn h (fun i hi => ?_) (fun i hi => ?_) ?_ ?_
    · rw [fi_ne (by decide), fi_ne (by decide), fi_at]
      exact pk_un (by omega)
    · show (fl_l (fl_l A 1 s b) 3 1 c).2 1 i = _
      rw [fl1_ne (by decide), fl1_at]
      exact if_neg (by omega)
    · show (fl_l (fl_l A 1 s b) 3 1 c).2 3 0 = _
      rw [fl1_at]
      exact if_neg (by decide)
    · rw [fi_ne (by decide), fi_at]
      exact pk_un (by decide)
  split
  · exact key _ _ _ _ _
  · split
    · exact key _ _ _ _ _
    · exact key _ _ _ _ _
set_option maxHeartbeats 4000000 in
set_option maxRecDepth 100000 in
theorem j4 (N : fl_M) (W : Nat → Nat → Int32) {n d c m0 k0 : Nat} (hn : n + 1 < 2 ^ 31) (h5 : d ≤ 5) (h : J N W (n + 1) d c m0 k0 n n) : J (g_MD_craftSends N) W (n + 1) d c m0 k0 (n + 1) n ∧ hg_WY_send (g_CT_nextInfo (XX (V N W))).2 8 ((XX (V N W)).1 0 5) (g_CT_nextInfo (XX (V N W))).1 = XX (V (g_MD_craftSends N) W) := by
  obtain ⟨a1, a2, a3, a4, a5, a6, a7, a8, a9, a10, e, he, a11⟩ := h
  obtain ⟨N', x, b1, b2, b3, b4, b5⟩ := s_cs N W a6 he a11
  have z : N'.1 0 = N.1 0 := b3 0 (by decide) (by decide) (by decide)
  have w1 : WU N' 1 n n d := wu_eq a10 (b3 2 (by decide) (by decide) (by decide)) (by rw [b4]) (by rw [b4]) (b3 4 (by decide) (by decide) (by decide))
  have w0 : WU N' 0 m0 k0 d := wu_eq a9 (b3 2 (by decide) (by decide) (by decide)) (by rw [b4]) (by rw [b4]) (b3 4 (by decide) (by decide) (by decide))
  have s := s_send1 N' W (by rw [b4]; exact a4) x hn (by rw [z]; exact a1) h5 (Nat.le_refl n) w1 (by omega)
  have cz : (g_MD_send N' 1 (g_MD_encode N' 0 x)).1 0 = N.1 0 := (send_c _ _ _ (by decide) (by decide) (by decide)).trans z
  have c9 : ∀ q, q ≠ 2 → q ≠ 4 → q ≠ 5 → q ≠ 36 → q ≠ 37 → q ≠ 38 → (g_MD_send N' 1 (g_MD_encode N' 0 x)).1 q = N.1 q := fun q h2 h4 h5 h36 h37 h38 => (send_c _ _ _ h2 h4 h5).trans (b3 q h36 h37 h38)
  have eV := s.1
  have tv : (V N' W).tv = (V N W).tv := yT_c (by rw [z]) (fun q h1 h2 _ => b3 q (by omega) (by omega) (by omega))
  have gv : (V N' W).gv = (V N W).gv := yG_c z
  have gi : (V N' W).gi = (V N W).gi := by show N'.2 23 = N.2 23; rw [b4]
  rw [b1, b2]
  refine ⟨⟨by rw [cz]; exact a1, by rw [cz]; exact a2, by rw [cz]; exact a3, by rw [send_l _ _ _ (by decide) (by decide), b4]; exact a4, by rw [cz]; exact a5, ra_same b5 (by rw [eV]; rfl), ti_same a7 (by rw [eV]; exact tv) (c9 9 (by decide) (by decide) (by decide) (by decide) (by decide) (by decide)) (c9 19 (by decide) (by decide) (by decide) (by decide) (by decide) (by decide)), ?_, send_dn _ w0, s.2, ⟨e, he, by rw [cz]; exact a11⟩⟩, ?_⟩
  · rw [eV]
    show GI (V N' W).gv (V N' W).gi
    rw [gv, gi]; exact a8
  · unfold hg_WY_send
    rw [X_0, X_8, X_g8, X_g9, X_pW8, eV]
    have et : (V N W).tm = N'.1 0 3 := by rw [z]; rfl
    rw [et]
set_option maxHeartbeats 4000000 in
set_option maxRecDepth 100000 in
theorem j5 (N : fl_M) (W : Nat → Nat → Int32) {n d c m0 k0 : Nat} (hn : n + 1 < 2 ^ 31) (h1 : 1 ≤ d) (h5 : d ≤ 5) (h : J N W (n + 1) d c m0 k0 (n + 1) n) : J (g_MD_hear N 1).2 W (n + 1) d c m0 k0 (n + 1) (n + 1) ∧ (hg_WY_hear (XX (V N W)) 8 ((XX (V N W)).1 0 5)).2 = XX (V (g_MD_hear N 1).2 W) ∧ (g_WY_hear ((XX (V N W)).1 8) ((XX (V N W)).2 8) ((XX (V N W)).2 (8 + 1)) ((XX (V N W)).1 0 5)).1 = (g_MD_hear N 1).1 ∧ ((g_MD_hear N 1).1 = -1 ∨ ¬ (g_MD_hear N 1).1 < 0) := by
  obtain ⟨a1, a2, a3, a4, a5, a6, a7, a8, a9, a10, a11⟩ := h
  have s := s_hear1 N W hn a1 a2 h1 h5 (Nat.le_refl _) a10
  have eV := s.2.1
  have cz : (g_MD_hear N 1).2.1 0 = N.1 0 := hear_c _ 1 (by decide) (by decide) (by decide)
  have cl := hear_l N 1
  refine ⟨⟨by rw [cz]; exact a1, by rw [cz]; exact a2, by rw [cz]; exact a3, by rw [cl]; exact a4, by rw [cz]; exact a5, ra_same a6 (by rw [eV]; rfl), ti_same a7 (by rw [eV]; rfl) (hear_c _ 1 (by decide) (by decide) (by decide)) (hear_c _ 1 (by decide) (by decide) (by decide)), by rw [eV]; exact a8, hear_dn a9, s.2.2.1, by rw [cz]; exact a11⟩, ?_, ?_, s.2.2.2⟩
  · unfold hg_WY_hear
    rw [X_0, X_8, X_g8, X_g9, X_pW8, eV]
    rfl
  · rw [X_0, X_8, X_g8, X_g9]
    exact s.1.symm
set_option maxHeartbeats 4000000 in
set_option maxRecDepth 100000 in
/-- what a step of the ground leaves of J -/
theorem j_ground {N N' : fl_M} {W : Nat → Nat → Int32} {n d c m0 k0 m1 k1 : Nat} (h : J N W n d c m0 k0 m1 k1) (k : K Sg Zg N N') (ht : TI N' W c) (hg : GI (V N' W).gv (V N' W).gi) : J N' W n d c m0 k0 m1 k1 := by
  obtain ⟨a1, a2, a3, a4, a5, a6, a7, a8, a9, a10, a11⟩ := h
  obtain ⟨k1, k2, k3⟩ := k
  have er : (V N' W).rv = (V N W).rv := yR_c (k2 1 (by decide)) (fun c h1 h2 _ => k1 c (by unfold Sg; simp only [decide_eq_true_eq]; omega))
  exact ⟨(k2 3 (by decide)).trans a1, (k2 0 (by decide)).trans a2, (k2 1 (by decide)).trans a3, by rw [k3]; exact a4, (k2 13 (by decide)).trans a5, ra_same a6 er, ht, hg, wu_eq a9 (k1 2 (by decide)) (by rw [k3]) (by rw [k3]) (k1 4 (by decide)), wu_eq a10 (k1 2 (by decide)) (by rw [k3]) (by rw [k3]) (k1 4 (by decide)), by rw [k2 38 (by decide)]; exact a11⟩
set_option maxHeartbeats 4000000 in
set_option maxRecDepth 100000 in
theorem j6 (N : fl_M) (W : Nat → Nat → Int32) {n d c m0 k0 m1 k1 : Nat} (hc : c ≤ 16) (x : Int64) (hx : x = -1 ∨ ¬ x < 0) (h : J N W n d c m0 k0 m1 k1) : J (if lg_cmp x 0 < 0 then N else g_MD_groundPdu (g_MD_groundReport N x) x) W n d c m0 k0 m1 k1 ∧ g_GR_hear (XX (V N W)) x = XX (V (if lg_cmp x 0 < 0 then N else g_MD_groundPdu (g_MD_groundReport N x) x) W) := by
  rcases hx with hx | hx
  · rw [if_pos (cmp_lt0.2 (by rw [hx]; decide))]
    refine ⟨h, ?_⟩
    rw [gr_eq, if_pos (cmpE.2 hx)]
  · rw [if_neg (fun c' => hx (cmp_lt0.1 c'))]
    obtain ⟨s1, s2, s3, s4⟩ := s_gh N W (nn_ne hx) h.2.2.2.2.1 hc h.2.2.2.2.2.2.1 h.2.2.2.2.2.2.2.1
    exact ⟨j_ground h (k_gpd (k_rep K.r x) x) s2 s3, s1⟩
set_option maxHeartbeats 4000000 in
set_option maxRecDepth 100000 in
theorem j7 (N : fl_M) (W : Nat → Nat → Int32) {n d c m0 k0 m1 k1 : Nat} (hc : c ≤ 16) (h : J N W n d c m0 k0 m1 k1) : J (g_MD_tick_L79 (((g_MD_frameClocks N).1 0 13).toNatClampNeg) 0 (g_MD_frameClocks N)) W n d c m0 k0 m1 k1 ∧ g_GR_stepClocks (XX (V N W)) = XX (V (g_MD_tick_L79 (((g_MD_frameClocks N).1 0 13).toNatClampNeg) 0 (g_MD_frameClocks N)) W) := by
  have e := s_fc N W
  have f := fs_fc N
  have kf : K Sg Zg N (g_MD_frameClocks N) := k_fck K.r
  have t1 : TI (g_MD_frameClocks N) W c := ti_same h.2.2.2.2.2.2.1 (by rw [e]; rfl) f.1.2.1 f.2.1
  have g1 : GI (V (g_MD_frameClocks N) W).gv (V (g_MD_frameClocks N) W).gi := by rw [e]; exact gi_step h.2.2.2.2.2.2.2.1
  have j1 := j_ground h kf t1 g1
  have ec : ((g_MD_frameClocks N).1 0 13).toNatClampNeg = c := by rw [j1.2.2.2.2.1, nI_clamp (by omega)]
  rw [ec]
  obtain ⟨s1, s2, s3, s4⟩ := s_gcL W hc c 0 (g_MD_frameClocks N) (by omega) t1
  have g2 : (V (g_MD_tick_L79 c 0 (g_MD_frameClocks N)) W).gv = (V (g_MD_frameClocks N) W).gv := yG_p (fun j hj => s4 j (by omega))
  have g3 : (V (g_MD_tick_L79 c 0 (g_MD_frameClocks N)) W).gi = (V (g_MD_frameClocks N) W).gi := by show (g_MD_tick_L79 c 0 (g_MD_frameClocks N)).2 23 = _; rw [s3.2.2]; rfl
  refine ⟨j_ground j1 (k_g79 c 0 _ K.r) s2 (by rw [g2, g3]; exact g1), ?_⟩
  unfold g_GR_stepClocks
  rw [X_11, X_13, X_g12, X_10, X_pGF', ← e]
  have ecn : (V N W).cn = nI c := h.2.2.2.2.1
  rw [ecn, nI_clamp (by omega)]
  exact s1
set_option maxHeartbeats 4000000 in
set_option maxRecDepth 100000 in
theorem j8 (N : fl_M) (W : Nat → Nat → Int32) {n d c : Nat} (hn : n + 1 < 2 ^ 31) (h1 : 1 ≤ d) (h5 : d ≤ 5) (hc : c ≤ 16) (h : J N W (n + 1) d c n (n + 1) (n + 1) (n + 1)) : J (g_MD_groundSends N) W (n + 1) d c (n + 1) (n + 1) (n + 1) (n + 1) ∧ (if lg_cmp (g_GR_nextInfo (XX (V N W))).1 (-1) = 0 then (g_GR_nextInfo (XX (V N W))).2 else hg_WY_send (g_GR_nextInfo (XX (V N W))).2 6 ((g_GR_nextInfo (XX (V N W))).2.1 0 5) (g_GR_nextInfo (XX (V N W))).1) = XX (V (g_MD_groundSends N) W) := by
  obtain ⟨a1, a2, a3, a4, a5, a6, a7, a8, a9, a10, a11⟩ := h
  rcases s_gs N W hc a5 a7 a8 h1 h5 a3 hn a1 (by omega) a9 (by omega) with ⟨v', x, b1, b2, b3, b4, b5, b6, b7, b8⟩ | ⟨b1, b2⟩
  · rw [b1]
    have et : v'.tm = nI (n + 1) := b8.1.trans a1
    refine ⟨⟨?_, ?_, ?_, by rw [b7.2.1]; exact a4, ?_, ?_, b4, b5, b6, b7.2.2.2 _ _ _ a10, ?_⟩, ?_⟩
    · have : (V (g_MD_groundSends N) W).tm = v'.tm := by rw [b3]; rfl
      exact this.trans et
    · have : (V (g_MD_groundSends N) W).wf 1 1 = v'.wf 1 1 := by rw [b3]; rfl
      refine this.trans ?_
      rw [b8.2.2.1]; exact a2
    · have : (V (g_MD_groundSends N) W).rv 0 0 = v'.rv 0 0 := by rw [b3]; rfl
      refine this.trans ?_
      rw [b8.2.2.2.2.1]; exact a3
    · have : (V (g_MD_groundSends N) W).cn = v'.cn := by rw [b3]; rfl
      exact this.trans (b8.2.1.trans a5)
    · exact ra_same a6 (by rw [b3]; exact b8.2.2.2.2.1)
    · have : (V (g_MD_groundSends N) W).cv 0 = v'.cv 0 := by rw [b3]; rfl
      have e : (g_MD_groundSends N).1 0 38 = N.1 0 38 := this.trans (by rw [b8.2.2.2.1]; rfl)
      rw [e]; exact a11
    · rw [if_neg (fun c' => b2 (cmpE.1 c'))]
      unfold hg_WY_send
      rw [X_0, X_6, X_g6, X_g7, X_pW6, b3, ← et]
      rfl
  · rw [b1, b2, if_pos (cmpE.2 rfl)]
    have w0 : WU N 0 (n + 1) (n + 1) d := ⟨fun j hj hh => by
      obtain ⟨s, p1, p2, p3, p4⟩ := a9.sl j hj hh
      exact ⟨s, p1, by omega, p3, p4⟩, a9.bl, a9.no, a9.ou⟩
    exact ⟨⟨a1, a2, a3, a4, a5, a6, a7, a8, w0, a10, a11⟩, rfl⟩
set_option maxHeartbeats 4000000 in
set_option maxRecDepth 100000 in
/-- a tick -/
theorem s_tick (N : fl_M) (W : Nat → Nat → Int32) {n d c : Nat} (hn : n + 1 < 2 ^ 31) (h1 : 1 ≤ d) (h5 : d ≤ 5) (hc : c ≤ 16) (h : J N W n d c n n n n) : J (g_MD_tick N) W (n + 1) d c (n + 1) (n + 1) (n + 1) (n + 1) ∧ g_FL_tick (XX (V N W)) = XX (V (g_MD_tick N) W) := by
  obtain ⟨p1, p2, p3, p4⟩ := j1 N W hn h1 h5 h
  have ya : yj_a N = if lg_cmp (yk_av N) 0 < 0 then yk_a N else g_MD_craftFrame (yk_a N) (yk_av N) := by unfold yj_a; rfl
  obtain ⟨q1, q2⟩ := j2 (yk_a N) W (yk_av N) p4 p1
  rw [← ya] at q1 q2
  obtain ⟨r1, r2⟩ := j3 (yj_a N) W q1
  have yb : yk_b N = g_MD_craftSends (g_MD_tick_L29 16 0 (yj_a N)) := by unfold yk_b; rfl
  have eb : tk_b (XX (V N W)) = XX (V (yj_a N) W) := by unfold tk_b; rw [p2, p3]; exact q2
  have ec : tk_c (XX (V N W)) = XX (V (g_MD_tick_L29 16 0 (yj_a N)) W) := by unfold tk_c; rw [eb]; exact r2
  generalize g_MD_tick_L29 16 0 (yj_a N) = N3 at r1 r2 yb ec
  obtain ⟨s1, s2⟩ := j4 N3 W hn h5 r1
  rw [← yb] at s1 s2
  have ee : tk_e (XX (V N W)) = XX (V (yk_b N) W) := by unfold tk_e tk_d tk_dv; rw [ec]; exact s2
  obtain ⟨t1, t2, t3, t4⟩ := j5 (yk_b N) W hn h1 h5 s1
  have yc : yk_c N = (g_MD_hear (yk_b N) 1).2 := by unfold yk_c; rfl
  have ycv : yk_cv N = (g_MD_hear (yk_b N) 1).1 := by unfold yk_cv; rfl
  rw [← yc] at t1 t2
  rw [← ycv] at t3 t4
  have ef : tk_f (XX (V N W)) = XX (V (yk_c N) W) := by unfold tk_f; rw [ee]; exact t2
  have efv : tk_fv (XX (V N W)) = yk_cv N := by unfold tk_fv; rw [ee]; exact t3
  obtain ⟨u1, u2⟩ := j6 (yk_c N) W hc (yk_cv N) t4 t1
  have yjb : yj_b N = if lg_cmp (yk_cv N) 0 < 0 then yk_c N else g_MD_groundPdu (g_MD_groundReport (yk_c N) (yk_cv N)) (yk_cv N) := by unfold yj_b; rfl
  rw [← yjb] at u1 u2
  have eg : tk_g (XX (V N W)) = XX (V (yj_b N) W) := by unfold tk_g; rw [ef, efv]; exact u2
  obtain ⟨v1, v2⟩ := j7 (yj_b N) W hc u1
  have yd : yk_d N = g_MD_frameClocks (yj_b N) := by unfold yk_d; rfl
  rw [← yd] at v1 v2
  have eh : tk_h (XX (V N W)) = XX (V (g_MD_tick_L79 (((yk_d N).1 0 13).toNatClampNeg) 0 (yk_d N)) W) := by unfold tk_h; rw [eg]; exact v2
  have yt : g_MD_tick N = g_MD_groundSends (g_MD_tick_L79 (((yk_d N).1 0 13).toNatClampNeg) 0 (yk_d N)) := by unfold g_MD_tick; rfl
  rw [yt]
  generalize g_MD_tick_L79 (((yk_d N).1 0 13).toNatClampNeg) 0 (yk_d N) = N7 at v1 v2 eh ⊢
  obtain ⟨w1, w2⟩ := j8 N7 W hn h1 h5 hc v1
  refine ⟨w1, ?_⟩
  unfold g_FL_tick tk_i tk_iv
  rw [eh]
  exact w2
