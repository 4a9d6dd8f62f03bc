/-! the lengths in the store; run -/
def SV (s : Nat → Int32) : Prop := ∀ f, f < 4 → ∃ l, l ≤ 16 ∧ s f = nI l
set_option maxHeartbeats 4000000 in
set_option maxRecDepth 100000 in
theorem aft_18 (v : Vw) {t : Nat} (ht : t < 16) (T : T3) (hr : RI T.2.1) (h : SV v.st) : SV ((aft v t T).1 18) := by
  unfold aft
  split
  · exact h
  · obtain ⟨m, hm, h6⟩ := vp_in_of hr.1 (by decide)
    have h5 : T.2.1 5 = nI (T.2.1 5).toNatClampNeg := hr.2.1
    have hk := kp_X ((mkV v.tm v.cn v.fs v.wf v.wg v.wb v.gv v.gz v.gi v.cv v.st v.sw v.tv v.tw (va_up v.rv t T.2.1) (va_up v.rw t T.2.2)) : Vw) ht hm hr.2.2 ((congrFun (va_up_self v.rv t T.2.1) 6).trans h6) ((congrFun (va_up_self v.rv t T.2.1) 5).trans h5)
    rw [hk]
    intro f hf
    show ∃ l, l ≤ 16 ∧ upd v.st m (nI (T.2.1 5).toNatClampNeg) f = nI l
    by_cases e : f = m
    · rw [e, pk_us]; exact ⟨_, hr.2.2, rfl⟩
    · rw [pk_un e]; exact h f hf
set_option maxHeartbeats 4000000 in
set_option maxRecDepth 100000 in
theorem ct_18 (v : Vw) (x : Int64) (h : ∀ s, s < 16 → RV (v.rv s) ∧ L7 (v.rv s)) (hs : SV v.st) : SV ((g_CT_hear (XX v) x).1 18) := by
  by_cases hx : lg_cmp x (-1) = 0
  · unfold g_CT_hear
    rw [if_pos hx]; exact hs
  · obtain ⟨k, hk, eK⟩ := q4_f x 44
    obtain ⟨t, ht, eT⟩ := q4_f x 40
    obtain ⟨p, hp, eP⟩ : ∃ p, p < 256 ∧ ((j_lushr x 32).toInt32) &&& 255 = nI p := pk_andE _ 8 rfl
    by_cases hg : (g_CF_giveOn v.cv (g_FL_fourBitsAt x 52) (g_FL_fourBitsAt x 48)).1 = 0
    · rw [ct_no v x hx hg]; exact hs
    · rw [ct_pdu v x ht eT eK eP hx hg]
      exact aft_18 _ ht _ (rv_hear hk hp (h t ht).1 (h t ht).2).1.ri hs
set_option maxHeartbeats 4000000 in
set_option maxRecDepth 100000 in
theorem sl_frame (N : fl_M) (W : Nat → Nat → Int32) {x : Int64} (hx : ¬ x < 0) (hra : RA N W) (hs : SV (N.1 39)) : SV ((g_MD_craftFrame N x).1 39) := by
  have e := s_frame N W x (nn_ne hx) (fun t ht => (hra t ht).1) (fun t ht => (hra t ht).2)
  have h := ct_18 (V N W) x hra hs
  rw [e] at h
  exact h
set_option maxHeartbeats 4000000 in
set_option maxRecDepth 100000 in
theorem c39_cc (N : fl_M) (x : Int32) : (g_MD_craftClocks N x).1 39 = N.1 39 := by
  unfold g_MD_craftClocks
  split
  · split
    · rfl
    · split
      · rfl
      · split
        · split
          · rfl
          · rfl
        · rfl
  · split
    · split
      · split
        · rfl
        · rfl
      · rfl
    · rfl
set_option maxHeartbeats 4000000 in
set_option maxRecDepth 100000 in
theorem c39_L : ∀ k i (N : fl_M), (g_MD_tick_L29 k i N).1 39 = N.1 39 := by
  intro k
  induction k with
  | zero => intro i N; rfl
  | succ k ih => intro i N; exact (ih _ _).trans (c39_cc N _)
set_option maxHeartbeats 4000000 in
set_option maxRecDepth 100000 in
theorem c39_gs (N : fl_M) (W : Nat → Nat → Int32) {n d c : Nat} (hn : n + 1 < 2 ^ 31) (h1 : 1 ≤ d) (h5 : d ≤ 5) (hc : c ≤ 16) (h : J N W (n + 1) d c n (n + 1) (n + 1) (n + 1)) : (g_MD_groundSends N).1 39 = N.1 39 := by
  obtain ⟨a1, a2, a3, a4, a5, a6, a7, a8, a9, a10, a11⟩ := h
  rcases s_gs N W hc a5 a7 a8 h1 h5 a3 hn a1 (by omega) a9 (by omega) with ⟨v', x, b1, b2, b3, b4, b5, b6, b7, b8⟩ | ⟨b1, b2⟩
  · have et : (V (g_MD_groundSends N) W).st = v'.st := by rw [b3]; rfl
    exact et.trans b8.2.2.2.2.2.2
  · rw [b2]
set_option maxHeartbeats 4000000 in
set_option maxRecDepth 100000 in
theorem c39_cs (N : fl_M) (W : Nat → Nat → Int32) (h : RA N W) (hq : q4 (N.1 0 38)) : (g_MD_craftSends N).1 39 = N.1 39 := by
  obtain ⟨e, he, e38⟩ := hq
  obtain ⟨N', x, b1, b2, b3, b4, b5⟩ := s_cs N W h he e38
  rw [b1, send_c _ _ _ (by decide) (by decide) (by decide), b3 39 (by decide) (by decide) (by decide)]
set_option maxHeartbeats 4000000 in
set_option maxRecDepth 100000 in
theorem sv_if {p : Prop} [Decidable p] {A B : fl_M} (ha : SV (A.1 39)) (hb : ¬ p → SV (B.1 39)) : SV ((if p then A else B).1 39) := by
  split
  · exact ha
  · rename_i h; exact hb h
set_option maxHeartbeats 4000000 in
set_option maxRecDepth 100000 in
theorem c39_if {p : Prop} [Decidable p] {N A B : fl_M} (ha : A.1 39 = N.1 39) (hb : B.1 39 = N.1 39) : (if p then A else B).1 39 = N.1 39 := by
  split
  · exact ha
  · exact hb
set_option maxHeartbeats 4000000 in
set_option maxRecDepth 100000 in
theorem sl_tick (N : fl_M) (W : Nat → Nat → Int32) {n d c : Nat} (hn : n + 1 < 2 ^ 31) (h1 : 1 ≤ d) (h5 : d ≤ 5) (hc : c ≤ 16) (h : J N W n d c n n n n) (hs : SV (N.1 39)) : SV ((g_MD_tick N).1 39) := by
  obtain ⟨p1, p2, p3, p4⟩ := j1 N W hn h1 h5 h
  have B1 : SV ((yk_a N).1 39) := by
    have : (yk_a N).1 39 = N.1 39 := (hear_c (fl_i N 0 3 (N.1 0 3 + 1)) 0 (c := 39) (by decide) (by decide) (by decide)).trans (fi_ne (by decide))
    rw [this]; exact hs
  have ya : yj_a N = if lg_cmp (yk_av N) 0 < 0 then yk_a N else g_MD_craftFrame (yk_a N) (yk_av N) := by unfold yj_a; rfl
  obtain ⟨q1, q2⟩ := j2 (yk_a N) W (yk_av N) p4 p1
  rw [← ya] at q1
  have B2 : SV ((yj_a N).1 39) := (congrArg (fun z => SV (z.1 39)) ya).mpr (sv_if B1 (fun g => sl_frame (yk_a N) W (fun c' => g (cmp_lt0.2 c')) p1.2.2.2.2.2.1 B1))
  obtain ⟨r1, r2⟩ := j3 (yj_a N) W q1
  have B3 := c39_L 16 0 (yj_a N)
  have yb : yk_b N = g_MD_craftSends (g_MD_tick_L29 16 0 (yj_a N)) := by unfold yk_b; rfl
  generalize g_MD_tick_L29 16 0 (yj_a N) = N3 at r1 r2 yb B3
  obtain ⟨s1, s2⟩ := j4 N3 W hn h5 r1
  have B4 : (yk_b N).1 39 = N3.1 39 := (congrArg (fun z => z.1 39) yb).trans (c39_cs N3 W r1.2.2.2.2.2.1 r1.2.2.2.2.2.2.2.2.2.2)
  rw [← yb] at s1 s2
  obtain ⟨t1, t2, t3, t4⟩ := j5 (yk_b N) W hn h1 h5 s1
  have yc : yk_c N = (g_MD_hear (yk_b N) 1).2 := by unfold yk_c; rfl
  have ycv : yk_cv N = (g_MD_hear (yk_b N) 1).1 := by unfold yk_cv; rfl
  have B5 : (yk_c N).1 39 = (yk_b N).1 39 := (congrArg (fun z => z.1 39) yc).trans (hear_c (yk_b N) 1 (c := 39) (by decide) (by decide) (by decide))
  rw [← yc] at t1
  rw [← ycv] at t4
  obtain ⟨u1, u2⟩ := j6 (yk_c N) W hc (yk_cv N) t4 t1
  have yjb : yj_b N = if lg_cmp (yk_cv N) 0 < 0 then yk_c N else g_MD_groundPdu (g_MD_groundReport (yk_c N) (yk_cv N)) (yk_cv N) := by unfold yj_b; rfl
  have B6 : (yj_b N).1 39 = (yk_c N).1 39 := (congrArg (fun z => z.1 39) yjb).trans (c39_if rfl ((k_gpd (k_rep K.r (yk_cv N)) (yk_cv N)).1 39 (by decide)))
  rw [← yjb] at u1
  obtain ⟨v1, v2⟩ := j7 (yj_b N) W hc u1
  have yd : yk_d N = g_MD_frameClocks (yj_b N) := by unfold yk_d; rfl
  have B8 : (g_MD_tick_L79 (((g_MD_frameClocks (yj_b N)).1 0 13).toNatClampNeg) 0 (g_MD_frameClocks (yj_b N))).1 39 = (yj_b N).1 39 := (k_g79 _ 0 _ (k_fck K.r)).1 39 (by decide)
  have yt : g_MD_tick N = g_MD_groundSends (g_MD_tick_L79 (((yk_d N).1 0 13).toNatClampNeg) 0 (yk_d N)) := by unfold g_MD_tick; rfl
  rw [yt, yd]
  generalize g_MD_tick_L79 (((g_MD_frameClocks (yj_b N)).1 0 13).toNatClampNeg) 0 (g_MD_frameClocks (yj_b N)) = N7 at v1 v2 B8 ⊢
  have B9 := c39_gs N7 W hn h1 h5 hc v1
  rw [B9, B8, B6, B5, B4, B3]
  exact B2
set_option maxHeartbeats 4000000 in
set_option maxRecDepth 100000 in
/-- the loop of run -/
theorem s_run (W : Nat → Nat → Int32) {d c : Nat} (h1 : 1 ≤ d) (h5 : d ≤ 5) (hc : c ≤ 16) : ∀ k i n (N : fl_M), n + k < 2 ^ 31 → J N W n d c n n n n → SV (N.1 39) → g_FL_run_L29 k i (XX (V N W)) = XX (V (g_MD_run_L18 k i N) W) ∧ J (g_MD_run_L18 k i N) W (n + k) d c (n + k) (n + k) (n + k) (n + k) ∧ SV ((g_MD_run_L18 k i N).1 39) ∧ Bal (g_MD_run_L18 k i N) W c = Bal N W c := by
  intro k
  induction k with
  | zero => intro i n N _ h hs; exact ⟨rfl, h, hs, rfl⟩
  | succ k ih =>
    intro i n N hn h hs
    obtain ⟨a1, a2⟩ := s_tick N W (by omega) h1 h5 hc h
    have a3 := b_tick N W (by omega) h1 h5 hc h
    have a4 := sl_tick N W (by omega) h1 h5 hc h hs
    obtain ⟨b1, b2, b3, b4⟩ := ih (i + 1) (n + 1) (g_MD_tick N) (by omega) a1 a4
    have e : n + 1 + k = n + (k + 1) := by omega
    rw [e] at b2
    refine ⟨?_, b2, b3, b4.trans a3⟩
    show g_FL_run_L29 k (i + 1) (g_FL_tick (XX (V N W))) = _
    rw [a2]
    exact b1
set_option maxHeartbeats 4000000 in
set_option maxRecDepth 100000 in
theorem m_run (N : fl_M) (W : Nat → Nat → Int32) {n d c : Nat} (h1 : 1 ≤ d) (h5 : d ≤ 5) (hc : c ≤ 16) (hn : n + 100 < 2 ^ 31) (h : J N W n d c n n n n) (hs : SV (N.1 39)) (x : Int32) : ∃ n', n' ≤ n + 100 ∧ (g_FL_run (XX (V N W)) x).1 = (g_MD_run N x).1 ∧ (g_FL_run (XX (V N W)) x).2 = XX (V (g_MD_run N x).2 W) ∧ J (g_MD_run N x).2 W n' d c n' n' n' n' ∧ SV ((g_MD_run N x).2.1 39) := by
  unfold g_FL_run g_MD_run
  have e1 := bo (x := x) (b := 101) (h := 100) rfl
  by_cases g : g_FL_isBelow x 101 = 0
  · rw [if_pos g, if_neg (e1.1 g)]; exact ⟨n, by omega, rfl, rfl, h, hs⟩
  · obtain ⟨k, hk, rfl⟩ := b_in (b := 101) (by decide) g
    rw [if_neg g, if_pos (Decidable.byContradiction fun c' => g (e1.2 c')), nI_clamp (show k < 2 ^ 31 by omega)]
    have eV : V (fl_i N 0 4 0) W = V N W := V_0_4 N W 0
    have j0 : J (fl_i N 0 4 0) W n d c n n n n := by
      obtain ⟨a1, a2, a3, a4, a5, a6, a7, a8, a9, a10, a11⟩ := h
      exact ⟨a1, a2, a3, a4, a5, ra_same a6 (by rw [eV]), ti_same a7 (by rw [eV]) rfl rfl, by rw [eV]; exact a8, wu_eq a9 rfl rfl rfl rfl, wu_eq a10 rfl rfl rfl rfl, a11⟩
    obtain ⟨b1, b2, b3, b4⟩ := s_run W h1 h5 hc k 0 n (fl_i N 0 4 0) (by omega) j0 hs
    rw [eV] at b1
    rw [b1]
    generalize g_MD_run_L18 k 0 (fl_i N 0 4 0) = Y at b1 b2 b3 b4 ⊢
    refine ⟨n + k, by omega, ?_, rfl, b2, b3⟩
    show (g_GR_countEnded (XX (V Y W)) + g_CT_countClosed (XX (V Y W))) - (g_GR_countEnded (XX (V N W)) + g_CT_countClosed (XX (V N W))) = Y.1 0 4
    rw [n_cl, n_cl, n_en (V Y W) b2.2.2.2.2.1 hc, n_en (V N W) h.2.2.2.2.1 hc]
    unfold Bal at b4
    rw [eV, show (fl_i N 0 4 0).1 0 4 = 0 from fi_s] at b4
    have e2 : Y.1 0 4 = (0 - (sE (V N W) c + sC (V N W))) + (sE (V Y W) c + sC (V Y W)) := by rw [← b4, Int32.sub_add_cancel]
    rw [e2, Int32.sub_eq_add_neg, Int32.sub_eq_add_neg, Int32.zero_add, Int32.add_comm]
