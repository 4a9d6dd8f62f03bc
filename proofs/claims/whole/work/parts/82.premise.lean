/-! what the contracts of run ask of a state holds -/
set_option maxHeartbeats 4000000 in
set_option maxRecDepth 100000 in
theorem tk_st (N : fl_M) (W : Nat → Nat → Int32) {n d c : Nat} (hn : n + 1 < 2 ^ 31) (h1 : 1 ≤ d) (h5 : d ≤ 5) (hc : c ≤ 16) (h : J N W n d c n n n n) : (J (yk_a N) W (n + 1) d c n (n + 1) n n ∧ tk_a (XX (V N W)) = XX (V (yk_a N) W)) ∧ J (yk_c N) W (n + 1) d c n (n + 1) (n + 1) (n + 1) ∧ (J (yj_b N) W (n + 1) d c n (n + 1) (n + 1) (n + 1) ∧ tk_g (XX (V N W)) = XX (V (yj_b N) W)) ∧ (yk_d N).1 0 13 = nI c ∧ (J (g_MD_tick_L79 (((yk_d N).1 0 13).toNatClampNeg) 0 (yk_d N)) W (n + 1) d c n (n + 1) (n + 1) (n + 1) ∧ tk_h (XX (V N W)) = XX (V (g_MD_tick_L79 (((yk_d N).1 0 13).toNatClampNeg) 0 (yk_d N)) W)) := by
  obtain ⟨p1, p2, p3, p4⟩ := j1 N W hn h1 h5 h
  have ya : yj_a N = if lg_cmp (yk_av N) 0 < 0 then yk_a N else g_MD_craftFrame (yk_a N) (yk_av N) := by unfold yj_a; rfl
  obtain ⟨q1, q2⟩ := j2 (yk_a N) W (yk_av N) p4 p1
  rw [← ya] at q1 q2
  obtain ⟨r1, r2⟩ := j3 (yj_a N) W q1
  have yb : yk_b N = g_MD_craftSends (g_MD_tick_L29 16 0 (yj_a N)) := by unfold yk_b; rfl
  have eb : tk_b (XX (V N W)) = XX (V (yj_a N) W) := by unfold tk_b; rw [p2, p3]; exact q2
  have ec : tk_c (XX (V N W)) = XX (V (g_MD_tick_L29 16 0 (yj_a N)) W) := by unfold tk_c; rw [eb]; exact r2
  generalize g_MD_tick_L29 16 0 (yj_a N) = N3 at r1 r2 yb ec
  obtain ⟨s1, s2⟩ := j4 N3 W hn h5 r1
  rw [← yb] at s1 s2
  have ee : tk_e (XX (V N W)) = XX (V (yk_b N) W) := by unfold tk_e tk_d tk_dv; rw [ec]; exact s2
  obtain ⟨t1, t2, t3, t4⟩ := j5 (yk_b N) W hn h1 h5 s1
  have yc : yk_c N = (g_MD_hear (yk_b N) 1).2 := by unfold yk_c; rfl
  have ycv : yk_cv N = (g_MD_hear (yk_b N) 1).1 := by unfold yk_cv; rfl
  rw [← yc] at t1 t2
  rw [← ycv] at t3 t4
  have ef : tk_f (XX (V N W)) = XX (V (yk_c N) W) := by unfold tk_f; rw [ee]; exact t2
  have efv : tk_fv (XX (V N W)) = yk_cv N := by unfold tk_fv; rw [ee]; exact t3
  obtain ⟨u1, u2⟩ := j6 (yk_c N) W hc (yk_cv N) t4 t1
  have yjb : yj_b N = if lg_cmp (yk_cv N) 0 < 0 then yk_c N else g_MD_groundPdu (g_MD_groundReport (yk_c N) (yk_cv N)) (yk_cv N) := by unfold yj_b; rfl
  rw [← yjb] at u1 u2
  have eg : tk_g (XX (V N W)) = XX (V (yj_b N) W) := by unfold tk_g; rw [ef, efv]; exact u2
  obtain ⟨v1, v2⟩ := j7 (yj_b N) W hc u1
  have yd : yk_d N = g_MD_frameClocks (yj_b N) := by unfold yk_d; rfl
  rw [← yd] at v1 v2
  have eh : tk_h (XX (V N W)) = XX (V (g_MD_tick_L79 (((yk_d N).1 0 13).toNatClampNeg) 0 (yk_d N)) W) := by unfold tk_h; rw [eg]; exact v2
  have e13 : (yk_d N).1 0 13 = nI c := (congrArg (fun z => z.1 0 13) yd).trans (((k_fck (N := yj_b N) K.r).2.1 13 (by decide)).trans u1.2.2.2.2.1)
  exact ⟨⟨p1, p2⟩, t1, ⟨u1, eg⟩, e13, v1, eh⟩
set_option maxHeartbeats 4000000 in
set_option maxRecDepth 100000 in
theorem kp_X1 (N : fl_M) (W : Nat → Nat → Int32) (h : RA N W) : KP (XX (V N W)) := by
  refine kp_of (fun q hq => ?_)
  obtain ⟨a, b, c⟩ := hq
  obtain ⟨t, rfl⟩ : ∃ t, q = 56 + 2 * t := ⟨(q - 56) / 2, by omega⟩
  rw [X_rv _ (show t < 16 by omega)]
  exact (h t (by omega)).1.ri
set_option maxHeartbeats 4000000 in
set_option maxRecDepth 100000 in
theorem nn_n {x : Int32} {o b : Nat} (hb : b ≤ 16) (h : x = nI o) (ho : o ≤ b) : nn x ∧ x.toNatClampNeg ≤ 16 := by
  rw [h, nI_clamp (by omega)]
  exact ⟨nn_nI (by omega), by omega⟩
set_option maxHeartbeats 4000000 in
set_option maxRecDepth 100000 in
theorem n_a {x : Int32} {o : Nat} (h : x = nI o) (ho : o ≤ 16) : nn x := by rw [h]; exact nn_nI (by omega)
set_option maxHeartbeats 4000000 in
set_option maxRecDepth 100000 in
theorem n_b {x : Int32} {o : Nat} (h : x = nI o) (ho : o ≤ 16) : x.toNatClampNeg ≤ 16 := by rw [h, nI_clamp (by omega)]; exact ho
set_option maxHeartbeats 4000000 in
set_option maxRecDepth 100000 in
theorem n_v {x : Int32} {o : Nat} (h : x = nI o) (ho : o < 16) : vp_in x 16 := by rw [h]; exact vp_in_nI ho (by decide)
set_option maxHeartbeats 4000000 in
set_option maxRecDepth 100000 in
theorem TK0 {A G H : fl_M} {o c o7 x7 : Nat} (k : KP A) (g5 : G.1 11 5 = nI o) (ho : o ≤ 16) (g2 : G.1 10 2 = nI c) (hc : c ≤ 16) (h5 : H.1 11 5 = nI o7) (ho7 : o7 ≤ 16) (h4 : H.1 11 4 = nI x7) (hx : x7 < 16) (h2 : H.1 10 2 = nI c) : (KP A) ∧ (nn (G.1 11 5)) ∧ (nn (G.1 10 2)) ∧ ((G.1 10 2).toNatClampNeg ≤ 16) ∧ (nn (H.1 11 5)) ∧ (vp_in (H.1 11 4) 16) ∧ (nn (H.1 10 2)) ∧ ((H.1 10 2).toNatClampNeg ≤ 16) := ⟨k, n_a g5 ho, n_a g2 hc, n_b g2 hc, n_a h5 ho7, n_v h4 hx, n_a h2 hc, n_b h2 hc⟩
set_option maxHeartbeats 4000000 in
set_option maxRecDepth 100000 in
theorem c_at {M X : fl_M} {q i : Nat} {y : Int32} (e : M = X) (h : X.1 q i = y) : M.1 q i = y := by rw [e]; exact h
set_option maxHeartbeats 4000000 in
set_option maxRecDepth 100000 in
theorem p_TK (N : fl_M) (W : Nat → Nat → Int32) {n d c : Nat} (hn : n + 1 < 2 ^ 31) (h1 : 1 ≤ d) (h5 : d ≤ 5) (hc : c ≤ 16) (h : J N W n d c n n n n) : TK (XX (V N W)) := by
  obtain ⟨⟨a1, a2⟩, b1, ⟨c1, c2⟩, d1, e1, e2⟩ := tk_st N W hn h1 h5 hc h
  generalize g_MD_tick_L79 (((yk_d N).1 0 13).toNatClampNeg) 0 (yk_d N) = N7 at e1 e2
  generalize yj_b N = N6 at c1 c2
  generalize yk_a N = N1 at a1 a2
  clear b1 d1 h
  unfold TK
  generalize tk_a (XX (V N W)) = A at a2 ⊢
  generalize tk_g (XX (V N W)) = G at c2 ⊢
  generalize tk_h (XX (V N W)) = H at e2 ⊢
  obtain ⟨o, ho, eo⟩ := c1.2.2.2.2.2.2.2.1.1
  obtain ⟨o7, ho7, eo7⟩ := e1.2.2.2.2.2.2.2.1.1
  obtain ⟨x7, hx7, ex7⟩ := e1.2.2.2.2.2.2.2.1.2.1
  exact TK0 (by rw [a2]; exact kp_X1 N1 W a1.2.2.2.2.2.1) (c_at c2 eo) (by omega) (c_at c2 c1.2.2.2.2.1) hc (c_at e2 eo7) (by omega) (c_at e2 ex7) hx7 (c_at e2 e1.2.2.2.2.1)
set_option maxHeartbeats 4000000 in
set_option maxRecDepth 100000 in
theorem yi_J {N : fl_M} {W : Nat → Nat → Int32} (h : RA N W) : YI N := fun t ht => ⟨(h t ht).2.1, (h t ht).2.2, (h t ht).1.ri.1⟩
set_option maxHeartbeats 4000000 in
set_option maxRecDepth 100000 in
theorem YTK0 {A C B D N7 : fl_M} {o o6 o7 x7 c : Nat} (hA : YI A) (d1 : D.1 0 13 = nI c) (hc : c ≤ 16) (q1 : C.1 0 30 = nI o) (ho : o ≤ 16) (q2 : B.1 0 30 = nI o6) (ho6 : o6 ≤ 16) (q3 : N7.1 0 30 = nI o7) (ho7 : o7 ≤ 16) (q5 : N7.1 0 13 = nI c) (q4' : N7.1 0 29 = nI x7) (hx : x7 < 16) (hl : ∀ j, j < 16 → ∃ l, l ≤ 16 ∧ N7.1 10 j = nI l) : (nn (D.1 0 13)) ∧ ((D.1 0 13).toNatClampNeg ≤ 16) ∧ (YI A) ∧ (∀ (N : fl_M) (c j : Nat) (v : Int32), c ≠ 27 → c ≠ 30 → c ≠ 31 → YI N → YI (fl_i N c j v)) ∧ (∀ (N : fl_M) (t k p w : Int32), vp_in t 16 → ¬ p < 0 → YI N → YI (g_MD_takes N t k p w).2) ∧ (nn (C.1 0 30)) ∧ ((C.1 0 30).toNatClampNeg ≤ 16) ∧ (nn (B.1 0 30)) ∧ ((B.1 0 30).toNatClampNeg ≤ 16) ∧ (nn (N7.1 0 30)) ∧ ((N7.1 0 30).toNatClampNeg ≤ 16) ∧ (nn (N7.1 0 13)) ∧ ((N7.1 0 13).toNatClampNeg ≤ 16) ∧ (vp_in (N7.1 0 29) 16) ∧ (∀ x : Int32, vp_in x 16 → nn (N7.1 10 x.toNatClampNeg) ∧ (N7.1 10 x.toNatClampNeg).toNatClampNeg ≤ 16) := by
  refine ⟨n_a d1 hc, n_b d1 hc, hA, yi_f, yi_t, n_a q1 ho, n_b q1 ho, n_a q2 ho6, n_b q2 ho6, n_a q3 ho7, n_b q3 ho7, n_a q5 hc, n_b q5 hc, n_v q4' hx, fun x hx => ?_⟩
  obtain ⟨j, hj, rfl⟩ := vp_in_of hx (by decide)
  rw [clN hj]
  obtain ⟨l, l1, l2⟩ := hl j hj
  exact ⟨n_a l2 l1, n_b l2 l1⟩
set_option maxHeartbeats 4000000 in
set_option maxRecDepth 100000 in
theorem p_YTK (N : fl_M) (W : Nat → Nat → Int32) {n d c : Nat} (hn : n + 1 < 2 ^ 31) (h1 : 1 ≤ d) (h5 : d ≤ 5) (hc : c ≤ 16) (h : J N W n d c n n n n) : YTK N := by
  obtain ⟨⟨a1, a2⟩, b1, ⟨c1, c2⟩, d1, e1, e2⟩ := tk_st N W hn h1 h5 hc h
  clear a2 c2 e2 h
  unfold YTK
  generalize g_MD_tick_L79 (((yk_d N).1 0 13).toNatClampNeg) 0 (yk_d N) = N7 at e1 ⊢
  generalize yj_b N = N6 at c1 ⊢
  generalize yk_c N = N5 at b1 ⊢
  generalize yk_d N = ND at d1 ⊢
  generalize yk_a N = N1 at a1 ⊢
  obtain ⟨o, ho, eo⟩ := b1.2.2.2.2.2.2.2.1.1
  obtain ⟨o6, ho6, eo6⟩ := c1.2.2.2.2.2.2.2.1.1
  obtain ⟨o7, ho7, eo7⟩ := e1.2.2.2.2.2.2.2.1.1
  obtain ⟨x7, hx7, ex7⟩ := e1.2.2.2.2.2.2.2.1.2.1
  refine YTK0 (yi_J a1.2.2.2.2.2.1) d1 hc eo (by omega) eo6 (by omega) eo7 (by omega) e1.2.2.2.2.1 ex7 hx7 (fun j hj => ?_)
  obtain ⟨⟨l, hl, el, _⟩, _⟩ := e1.2.2.2.2.2.2.1 j hj
  exact ⟨l, hl, el⟩
