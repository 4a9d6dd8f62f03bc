/-! the count in a tick -/
set_option maxHeartbeats 4000000 in
set_option maxRecDepth 100000 in
theorem en_eq {f g : Nat → Int32} (h : g 14 = f 14) : en g = en f := by unfold en; rw [h]
set_option maxHeartbeats 4000000 in
set_option maxRecDepth 100000 in
theorem cl_eq {f g : Nat → Int32} (h : g 2 = f 2) : cl g = cl f := by unfold cl; rw [h]
set_option maxHeartbeats 4000000 in
set_option maxRecDepth 100000 in
theorem bal_s2 {N N' : fl_M} {W : Nat → Nat → Int32} {c : Nat} (h4 : N'.1 0 4 = N.1 0 4) (et : ∀ s, s < c → (V N' W).tv s 14 = (V N W).tv s 14) (er : ∀ s, s < 16 → (V N' W).rv s 2 = (V N W).rv s 2) : Bal N' W c = Bal N W c := by
  unfold Bal sE sC
  have e1 : sI (fun t => en ((V N' W).tv t)) 0 c = sI (fun t => en ((V N W).tv t)) 0 c := sI_c c 0 (fun j _ h => en_eq (et j (by omega)))
  have e2 : sI (fun t => cl ((V N' W).rv t)) 0 16 = sI (fun t => cl ((V N W).rv t)) 0 16 := sI_c 16 0 (fun j _ h => cl_eq (er j (by omega)))
  rw [h4, e1, e2]
set_option maxHeartbeats 4000000 in
set_option maxRecDepth 100000 in
theorem b_gp (N : fl_M) (W : Nat → Nat → Int32) {t k : Nat} (ht : t < 16) (hk : k < 16) (m : Int32) (hc : nI t < N.1 0 13) : (yGp N (nI k) (nI t) m).1 0 4 + en ((V N W).tv t) = N.1 0 4 + en (g_TR_hear ((V N W).tv t) ((V N W).tw t) (nI k) m).1 := by
  have e14 : (V N W).tv t 14 = N.1 13 t := rfl
  unfold yGp
  rw [clN ht, if_pos hc]
  rcases k_c3 k hk with h | rfl | rfl | rfl
  · have a : g_TR_hear ((V N W).tv t) ((V N W).tw t) (nI k) m = ((V N W).tv t, (V N W).tw t) := by
      unfold g_TR_hear
      rcases h with h | h
      · rw [if_pos h]
      · by_cases h1 : nI k < 1
        · rw [if_pos h1]
        · rw [if_neg h1, if_neg (fun c => by rw [Int32.lt_iff_toInt_lt] at h; rw [Int32.le_iff_toInt_le] at c; omega)]
    have b : ∀ A : fl_M, (if nI k < 1 then N else (if 3 < nI k then N else A)) = N := by
      intro A
      rcases h with h | h
      · rw [if_pos h]
      · by_cases h1 : nI k < 1
        · rw [if_pos h1]
        · rw [if_neg h1, if_pos h]
    rw [b, a]
  · unfold g_TR_hear g_TR_hearUnderWay
    rw [e14, show nI 1 = 1 from rfl]
    by_cases h1 : N.1 13 t = 0
    · simp (decide := true) only [h1, if_true, if_false]
      rfl
    · simp (decide := true) only [h1, if_true, if_false]
      rfl
  · unfold g_TR_hear g_TR_hearUnderWay
    rw [e14, show nI 2 = 2 from rfl, show upd ((V N W).tv t) 9 (12 * (V N W).tv t 1) 12 = N.1 16 t from rfl]
    by_cases h1 : N.1 13 t = 0
    · by_cases h2 : N.1 16 t = 0
      · simp (decide := true) only [h1, h2, if_true, if_false]
        rfl
      · simp (decide := true) only [h1, h2, if_true, if_false]
        rfl
    · simp (decide := true) only [h1, if_true, if_false]
      rfl
  · unfold g_TR_hear g_TR_hearUnderWay
    rw [e14, show nI 3 = 3 from rfl]
    by_cases h1 : N.1 13 t = 0
    · simp (decide := true) only [h1, if_true, if_false]
      have a : en ((V N W).tv t) = 0 := by unfold en; rw [e14, if_pos h1]
      rw [a, Int32.add_zero]
      exact fi_s
    · simp (decide := true) only [h1, if_true, if_false]
      rfl
set_option maxHeartbeats 4000000 in
set_option maxRecDepth 100000 in
theorem b_gc (N : fl_M) (W : Nat → Nat → Int32) {t : Nat} (ht : t < 16) {P : Prop} (hP : P) (hp : TP ((V N W).tv t) (N.1 19 t) (W t) (yw N t) P) : (g_MD_groundClocks N (nI t)).1 0 4 + en ((V N W).tv t) = N.1 0 4 + en (g_TR_stepClocks ((V N W).tv t) ((V N W).tw t)).1 := by
  have e6 : (V N W).tv t 6 = N.1 15 t := rfl
  have e7 : (V N W).tv t 7 = N.1 20 t := rfl
  have e8 : (V N W).tv t 8 = N.1 21 t := rfl
  have e9 : (V N W).tv t 9 = N.1 22 t := rfl
  have e11 : (V N W).tv t 11 = N.1 17 t := rfl
  have e13 : (V N W).tv t 13 = N.1 18 t := rfl
  have e14 : (V N W).tv t 14 = N.1 13 t := rfl
  have hq := hp.2.2 hP
  rw [e14, e6, e8] at hq
  unfold g_MD_groundClocks g_TR_stepClocks
  rw [clN ht, e14, e13, e11, e6]
  by_cases h1 : N.1 13 t = 0
  · obtain ⟨q1, q2⟩ := hq h1
    have a : en ((V N W).tv t) = 0 := by unfold en; rw [e14, if_pos h1]
    simp only [if_pos h1]
    by_cases h2 : N.1 18 t = 0
    · simp only [if_pos h2]
      by_cases h3 : N.1 17 t = 0
      · simp only [if_pos h3]
        by_cases h4 : N.1 19 t = 0
        · have h5 : ¬ N.1 15 t &&& 131072 = 0 := fun c => (q1.2 c) h4
          simp only [if_pos h4, if_neg h5]
        · have h5 := q1.1 h4
          have h6 := q2 h4
          simp only [if_neg h4, if_pos h5, fi_s]
          unfold g_TR_stepClock
          simp only [e8, e7, pos_pred h6]
          by_cases h7 : N.1 21 t - 1 = 0
          · simp only [if_pos h7]
            by_cases h8 : N.1 20 t = 4
            · simp only [if_pos h8]
              rw [a, Int32.add_zero]
              exact fi_s
            · simp only [if_neg h8]
              rfl
          · simp only [if_neg h7]
            rfl
      · simp only [if_neg h3, fi_s]
        unfold g_TR_stepIdle
        simp only [e9]
        by_cases h7 : N.1 22 t - 1 = 0
        · simp only [if_pos h7]
          rw [a, Int32.add_zero]
          exact fi_s
        · simp only [if_neg h7]
          rfl
    · simp only [if_neg h2]
  · simp only [if_neg h1]
set_option maxHeartbeats 4000000 in
set_option maxRecDepth 100000 in
theorem b_g79 (W : Nat → Nat → Int32) {c : Nat} (hc : c ≤ 16) : ∀ k i (N : fl_M), i + k ≤ c → TI N W c → Bal (g_MD_tick_L79 k i N) W c = Bal N W c := by
  intro k
  induction k with
  | zero => intro i N _ _; rfl
  | succ k ih =>
    intro i N hi h
    have h1 := s_gc1 N W (t := i) (by omega) (show i < c by omega) h
    have e := s_gc N W (show i < 16 by omega) (show i < c by omega) (h i (by omega))
    show Bal (g_MD_tick_L79 k (i + 1) (g_MD_groundClocks N (nI i))) W c = _
    rw [ih (i + 1) _ (by omega) h1.2]
    exact bal_t (t := i) (f := (g_TR_stepClocks ((V N W).tv i) ((V N W).tw i)).1) (by omega) (b_gc N W (by omega) (show i < c by omega) (h i (by omega))) (fun s _ => by rw [e]; rfl) (by rw [e]; rfl)
set_option maxHeartbeats 4000000 in
set_option maxRecDepth 100000 in
theorem b_gh (N : fl_M) (W : Nat → Nat → Int32) {x : Int64} {c : Nat} (hc : N.1 0 13 = nI c) (hc16 : c ≤ 16) (hg : GI (V N W).gv (V N W).gi) : Bal (g_MD_groundPdu (g_MD_groundReport N x) x) W c = Bal N W c := by
  obtain ⟨k, hk, eK⟩ := q4_f x 8
  obtain ⟨t, ht, eT⟩ := q4_f x 12
  have er := s_rep N W x hg.2.2.2.1
  have fr := fs_rep N x
  have b1 : Bal (g_MD_groundReport N x) W c = Bal N W c := bal_same fr.2.2 (fun s _ => by rw [er]; rfl) (fun s _ => by rw [er]; rfl)
  have ecn : (g_MD_groundReport N x).1 0 13 = N.1 0 13 := congrArg Vw.cn er
  rw [← b1]
  generalize g_MD_groundReport N x = N1 at ecn ⊢
  rw [yGp_eq, ← fb_8, ← fb_12, eK, eT]
  by_cases hct : t < c
  · have n : nI t < N1.1 0 13 := by rw [ecn, hc]; exact nI_lt hct (by omega)
    obtain ⟨v1, _⟩ := gp_v N1 W ht hk ((j_lshr x 16) &&& 16777215).toInt32 n
    exact bal_t hct (b_gp N1 W ht hk _ n) (fun s _ => by rw [v1]; rfl) (by rw [v1]; rfl)
  · have n : ¬ nI t < N1.1 0 13 := by rw [ecn, hc]; exact nI_nlt (by omega) (by omega)
    have ey : yGp N1 (nI k) (nI t) ((j_lshr x 16) &&& 16777215).toInt32 = N1 := by
      unfold yGp
      rw [if_neg n]
      split
      · rfl
      · split
        · rfl
        · rfl
    rw [ey]
set_option maxHeartbeats 4000000 in
set_option maxRecDepth 100000 in
theorem b_if {p : Prop} [Decidable p] {A B : fl_M} {W : Nat → Nat → Int32} {c : Nat} (h : Bal B W c = Bal A W c) : Bal (if p then A else B) W c = Bal A W c := by
  split
  · rfl
  · exact h
set_option maxHeartbeats 4000000 in
set_option maxRecDepth 100000 in
theorem b_fc (N : fl_M) (W : Nat → Nat → Int32) {c : Nat} (hc : c ≤ 16) (h13 : N.1 0 13 = nI c) (h : TI N W c) : Bal (g_MD_frameClocks N) W c = Bal N W c ∧ TI (g_MD_frameClocks N) W c ∧ ((g_MD_frameClocks N).1 0 13).toNatClampNeg = c := by
  have ef := s_fc N W
  have ff := fs_fc N
  have et : (V (g_MD_frameClocks N) W).tv = (V N W).tv := by rw [ef]; rfl
  have er : (V (g_MD_frameClocks N) W).rv = (V N W).rv := by rw [ef]; rfl
  have ec : (V (g_MD_frameClocks N) W).cn = (V N W).cn := by rw [ef]; rfl
  refine ⟨bal_same ff.2.2 (fun s _ => by rw [et]) (fun s _ => by rw [er]), ti_same h et ff.1.2.1 ff.2.1, ?_⟩
  have : (g_MD_frameClocks N).1 0 13 = N.1 0 13 := ec
  rw [this, h13, nI_clamp (by omega)]
set_option maxHeartbeats 4000000 in
set_option maxRecDepth 100000 in
theorem b_gs (N : fl_M) (W : Nat → Nat → Int32) {n d c : Nat} (hn : n + 1 < 2 ^ 31) (h1 : 1 ≤ d) (h5 : d ≤ 5) (hc : c ≤ 16) (h : J N W (n + 1) d c n (n + 1) (n + 1) (n + 1)) : Bal (g_MD_groundSends N) W c = Bal N W c := by
  obtain ⟨a1, a2, a3, a4, a5, a6, a7, a8, a9, a10, a11⟩ := h
  rcases s_gs N W hc a5 a7 a8 h1 h5 a3 hn a1 (by omega) a9 (by omega) with ⟨v', x, b1, b2, b3, b4, b5, b6, b7, b8⟩ | ⟨b1, b2⟩
  · have et : (V (g_MD_groundSends N) W).tv = v'.tv := by rw [b3]; rfl
    have er : (V (g_MD_groundSends N) W).rv = v'.rv := by rw [b3]; rfl
    refine bal_s2 b7.2.2.1 (fun s _ => ?_) (fun s _ => ?_)
    · rw [et]; exact b8.2.2.2.2.2.1 s
    · rw [er, b8.2.2.2.2.1]
  · rw [b2]
set_option maxHeartbeats 4000000 in
set_option maxRecDepth 100000 in
theorem b_h1 (N : fl_M) (W : Nat → Nat → Int32) {c : Nat} : Bal (g_MD_hear N 1).2 W c = Bal N W c := by
  have c0 := hear_c N 1 (c := 0) (by decide) (by decide) (by decide)
  have c13 := hear_c N 1 (c := 13) (by decide) (by decide) (by decide)
  have c25 := hear_c N 1 (c := 25) (by decide) (by decide) (by decide)
  generalize (g_MD_hear N 1).2 = Y at c0 c13 c25 ⊢
  exact bal_s2 (congrFun c0 4) (fun s _ => congrFun c13 s) (fun s _ => congrFun c25 s)
set_option maxHeartbeats 4000000 in
set_option maxRecDepth 100000 in
/-- a tick: the count -/
theorem b_tick (N : fl_M) (W : Nat → Nat → Int32) {n d c : Nat} (hn : n + 1 < 2 ^ 31) (h1 : 1 ≤ d) (h5 : d ≤ 5) (hc : c ≤ 16) (h : J N W n d c n n n n) : Bal (g_MD_tick N) W c = Bal N W c := by
  obtain ⟨p1, p2, p3, p4⟩ := j1 N W hn h1 h5 h
  have B1 : Bal (yk_a N) W c = Bal N W c := by
    have z4 : (yk_a N).1 0 4 = N.1 0 4 := (congrFun (hear_c _ 0 (by decide) (by decide) (by decide)) 4).trans (fi_0 (by decide))
    have cc : ∀ q, q ≠ 0 → q ≠ 2 → q ≠ 6 → q ≠ 7 → (yk_a N).1 q = N.1 q := fun q h0 h2 h6 h7 => (hear_c _ 0 h2 h6 h7).trans (fi_ne h0)
    exact bal_s2 z4 (fun s _ => congrFun (cc 13 (by decide) (by decide) (by decide) (by decide)) s) (fun s _ => congrFun (cc 25 (by decide) (by decide) (by decide) (by decide)) s)
  have ya : yj_a N = if lg_cmp (yk_av N) 0 < 0 then yk_a N else g_MD_craftFrame (yk_a N) (yk_av N) := by unfold yj_a; rfl
  obtain ⟨q1, q2⟩ := j2 (yk_a N) W (yk_av N) p4 p1
  have B2 : Bal (yj_a N) W c = Bal (yk_a N) W c := by
    rw [ya]
    split
    · rfl
    · exact b_frame (yk_a N) W hc (yk_av N) p1.2.2.2.2.2.1
  rw [← ya] at q1
  obtain ⟨r1, r2⟩ := j3 (yj_a N) W q1
  have B3 : Bal (g_MD_tick_L29 16 0 (yj_a N)) W c = Bal (yj_a N) W c := b_c29 W hc 16 0 (yj_a N) (by omega) q1.2.2.2.2.2.1
  have yb : yk_b N = g_MD_craftSends (g_MD_tick_L29 16 0 (yj_a N)) := by unfold yk_b; rfl
  generalize g_MD_tick_L29 16 0 (yj_a N) = N3 at r1 r2 yb B3
  obtain ⟨s1, s2⟩ := j4 N3 W hn h5 r1
  have B4 : Bal (yk_b N) W c = Bal N3 W c := by
    rw [yb]
    obtain ⟨e, he, e38⟩ := r1.2.2.2.2.2.2.2.2.2.2
    obtain ⟨N', x, b1, b2, b3, b4, b5⟩ := s_cs N3 W r1.2.2.2.2.2.1 he e38
    rw [b1]
    refine bal_s2 ?_ (fun s _ => ?_) (fun s _ => ?_)
    · rw [send_c _ _ _ (by decide) (by decide) (by decide), b3 0 (by decide) (by decide) (by decide)]
    · show (g_MD_send N' 1 (g_MD_encode N' 0 x)).1 13 s = N3.1 13 s
      rw [send_c _ _ _ (by decide) (by decide) (by decide), b3 13 (by decide) (by decide) (by decide)]
    · show (g_MD_send N' 1 (g_MD_encode N' 0 x)).1 25 s = N3.1 25 s
      rw [send_c _ _ _ (by decide) (by decide) (by decide), b3 25 (by decide) (by decide) (by decide)]
  rw [← yb] at s1 s2
  obtain ⟨t1, t2, t3, t4⟩ := j5 (yk_b N) W hn h1 h5 s1
  have yc : yk_c N = (g_MD_hear (yk_b N) 1).2 := by unfold yk_c; rfl
  have ycv : yk_cv N = (g_MD_hear (yk_b N) 1).1 := by unfold yk_cv; rfl
  have B5 : Bal (yk_c N) W c = Bal (yk_b N) W c := (congrArg (fun z => Bal z W c) yc).trans (b_h1 (yk_b N) W)
  rw [← yc] at t1
  rw [← ycv] at t4
  obtain ⟨u1, u2⟩ := j6 (yk_c N) W hc (yk_cv N) t4 t1
  have yjb : yj_b N = if lg_cmp (yk_cv N) 0 < 0 then yk_c N else g_MD_groundPdu (g_MD_groundReport (yk_c N) (yk_cv N)) (yk_cv N) := by unfold yj_b; rfl
  have B6 : Bal (yj_b N) W c = Bal (yk_c N) W c := (congrArg (fun z => Bal z W c) yjb).trans (b_if (b_gh (yk_c N) W t1.2.2.2.2.1 hc t1.2.2.2.2.2.2.2.1))
  rw [← yjb] at u1
  obtain ⟨v1, v2⟩ := j7 (yj_b N) W hc u1
  have yd : yk_d N = g_MD_frameClocks (yj_b N) := by unfold yk_d; rfl
  obtain ⟨B7, ti, ec⟩ := b_fc (yj_b N) W hc u1.2.2.2.2.1 u1.2.2.2.2.2.2.1
  have B8 : Bal (g_MD_tick_L79 (((g_MD_frameClocks (yj_b N)).1 0 13).toNatClampNeg) 0 (g_MD_frameClocks (yj_b N))) W c = Bal (g_MD_frameClocks (yj_b N)) W c := by
    rw [ec]; exact b_g79 W hc c 0 _ (by omega) ti
  have yt : g_MD_tick N = g_MD_groundSends (g_MD_tick_L79 (((yk_d N).1 0 13).toNatClampNeg) 0 (yk_d N)) := by unfold g_MD_tick; rfl
  rw [yt, yd]
  generalize g_MD_tick_L79 (((g_MD_frameClocks (yj_b N)).1 0 13).toNatClampNeg) 0 (g_MD_frameClocks (yj_b N)) = N7 at v1 v2 B8 ⊢
  have B9 : Bal (g_MD_groundSends N7) W c = Bal N7 W c := b_gs N7 W hn h1 h5 hc v1
  rw [B9, B8, B7, B6, B5, B4, B3, B2, B1]
