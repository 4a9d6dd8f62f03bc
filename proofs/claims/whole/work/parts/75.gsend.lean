/-! the ground sends a block or none -/
/-- raw cells that stay when a block is sent up -/
def FU (N N' : fl_M) : Prop := N'.1 9 = N.1 9 ∧ N'.2 0 = N.2 0 ∧ N'.1 0 4 = N.1 0 4 ∧ ∀ m n d, WU N 1 m n d → WU N' 1 m n d
set_option maxHeartbeats 4000000 in
set_option maxRecDepth 100000 in
theorem FU.r (N : fl_M) : FU N N := ⟨rfl, rfl, rfl, fun _ _ _ h => h⟩
set_option maxHeartbeats 4000000 in
set_option maxRecDepth 100000 in
theorem FU.t {A B C : fl_M} (h : FU A B) (h' : FU B C) : FU A C := ⟨h'.1.trans h.1, h'.2.1.trans h.2.1, h'.2.2.1.trans h.2.2.1, fun m n d w => h'.2.2.2 m n d (h.2.2.2 m n d w)⟩
set_option maxHeartbeats 4000000 in
set_option maxRecDepth 100000 in
theorem FU.of {N N' : fl_M} (h9 : N'.1 9 = N.1 9) (h0 : N'.2 0 = N.2 0) (h04 : N'.1 0 4 = N.1 0 4) (e2 : N'.1 2 = N.1 2) (e1 : N'.2 1 = N.2 1) (e3 : N'.2 3 = N.2 3) (e4 : N'.1 4 = N.1 4) : FU N N' := ⟨h9, h0, h04, fun _ _ _ h => wu_eq h e2 e1 e3 e4⟩
set_option maxHeartbeats 4000000 in
set_option maxRecDepth 100000 in
theorem s_lt8 (x : Int32) : (8 * 0 + (x &&& 7)).toNatClampNeg < 8 := by
  obtain ⟨j, hj, e⟩ := pk_andE x (m := 7) 3 rfl
  rw [e, i8_0, nI_clamp (by omega)]
  omega
set_option maxHeartbeats 4000000 in
set_option maxRecDepth 100000 in
theorem wu_up {N N' : fl_M} {m n d : Nat} (h : WU N 1 m n d) (e2 : ∀ i, 8 ≤ i → N'.1 2 i = N.1 2 i) (e1 : ∀ i, 8 ≤ i → N'.2 1 i = N.2 1 i) (e3 : N'.2 3 1 = N.2 3 1) (e4 : N'.1 4 1 = N.1 4 1) : WU N' 1 m n d := by
  refine ⟨fun j hj hh => ?_, fun j hj hh => ?_, ?_, ?_⟩
  · rw [e2 _ (by omega)] at hh; exact h.sl j hj hh
  · rw [e2 _ (by omega)] at hh; rw [e1 _ (by omega)]; exact h.bl j hj hh
  · rw [e3]; exact h.no
  · rw [e4]; exact h.ou
set_option maxHeartbeats 4000000 in
set_option maxRecDepth 100000 in
theorem fu_send (A : fl_M) (B : Int64) : FU A (g_MD_send A 0 B) := by
  refine ⟨send_c _ _ _ (by decide) (by decide) (by decide), send_l _ _ _ (by decide) (by decide), congrFun (send_c _ _ _ (by decide) (by decide) (by decide)) 4, fun m n d h => ?_⟩
  have hl := s_lt8 (A.1 0 3)
  unfold g_MD_send
  generalize (8 * 0 + (A.1 0 3 &&& 7) : Int32).toNatClampNeg = s at hl
  have key : ∀ (x y z : Int32) (b c : Int64), WU (fl_i (fl_i (fl_i (fl_l (fl_l A 1 s b) 3 0 c) 2 s x) 4 0 y) 5 0 z) 1 m n d := by
    intro x y z b c
    refine wu_up h (fun i hi => ?_) (fun i hi => ?_) ?_ ?_
    · rw [fi_ne (by decide), fi_ne (by decide), fi_at]
      exact pk_un (by omega)
    · show (fl_l (fl_l A 1 s b) 3 0 c).2 1 i = _
      rw [fl1_ne (by decide), fl1_at]
      exact if_neg (by omega)
    · show (fl_l (fl_l A 1 s b) 3 0 c).2 3 1 = _
      rw [fl1_at]
      exact if_neg (by decide)
    · rw [fi_ne (by decide), fi_at]
      exact pk_un (by decide)
  split
  · exact key _ _ _ _ _
  · split
    · exact key _ _ _ _ _
    · exact key _ _ _ _ _
set_option maxHeartbeats 4000000 in
set_option maxRecDepth 100000 in
theorem fu_post (S : fl_M) : FU S (poD S) := by
  have h : ∀ y : Int32, FU S (fl_i (poC S) 0 34 y) := fun y => FU.of rfl rfl rfl rfl rfl rfl rfl
  unfold poD
  split
  · exact h _
  · exact h _
set_option maxHeartbeats 4000000 in
set_option maxRecDepth 100000 in
theorem fu_poB (A : fl_M) (nx : Int32) (I : Int64) : FU A (poB A nx I) ∧ (poB A nx I).1 9 = A.1 9 ∧ (poB A nx I).1 19 = A.1 19 := by
  unfold poB g_MD_sendUp
  generalize (I ||| j_lshl nx.toInt64 48) = X
  generalize nx.toNatClampNeg = j
  have h : FU A (fl_i (fl_l A 23 j X) 24 j 0) := FU.of rfl rfl rfl rfl rfl rfl rfl
  have h9 : (fl_i (fl_l A 23 j X) 24 j 0).1 9 = A.1 9 := rfl
  have h19 : (fl_i (fl_l A 23 j X) 24 j 0).1 19 = A.1 19 := rfl
  generalize (fl_l A 23 j X).2 23 j = Y
  generalize fl_i (fl_l A 23 j X) 24 j 0 = B at h h9 h19
  exact ⟨h.t (fu_send _ _), (send_c _ _ _ (by decide) (by decide) (by decide)).trans h9, (send_c _ _ _ (by decide) (by decide) (by decide)).trans h19⟩
set_option maxHeartbeats 4000000 in
set_option maxRecDepth 100000 in
theorem po_9 (S : fl_M) : (poD S).1 9 = S.1 9 ∧ (poD S).1 19 = S.1 19 := by
  unfold poD
  split
  · exact ⟨rfl, rfl⟩
  · exact ⟨rfl, rfl⟩
set_option maxHeartbeats 4000000 in
set_option maxRecDepth 100000 in
theorem or_nn {a b : Int64} (ha : ¬ a < 0) (hb : ¬ b < 0) : ¬ (a ||| b) < 0 := by
  rw [lneg] at ha hb ⊢
  rw [Int64.toBitVec_or, BitVec.msb_or]
  cases h1 : a.toBitVec.msb
  · cases h2 : b.toBitVec.msb
    · decide
    · exact absurd h2 hb
  · exact absurd h1 ha
set_option maxHeartbeats 4000000 in
set_option maxRecDepth 100000 in
theorem gi_sio {f z : Nat → Int32} {g : Nat → Int64} {I : Int64} (hI : ¬ I < 0) (h : GI f g) (h7 : ¬ 7 ≤ f 5) (h3 : f 3 = 0) : GI (g_GF_sendInOrder f z g I).2.1 (g_GF_sendInOrder f z g I).2.2.2 ∧ ¬ (g_GF_sendInOrder f z g I).1 < 0 := by
  obtain ⟨⟨o, ho, eo⟩, ⟨x, hx, ex⟩, h4, h9, hg⟩ := h
  rw [eo] at h7
  have ho7 : o < 7 := by
    rcases Nat.lt_or_ge o 7 with a | a
    · exact a
    · exact absurd (nI_le (a := 7) a (by omega)) h7
  have hx48 : ∀ x, x < 16 → ¬ j_lshl (nI x).toInt64 48 < 0 := by decide +kernel
  have hX : ¬ (I ||| j_lshl (f 4).toInt64 48) < 0 := by rw [ex]; exact or_nn hI (hx48 x hx)
  have hg' : ∀ j k, ¬ vp_updL g j (I ||| j_lshl (f 4).toInt64 48) k < 0 := by
    intro j k
    unfold vp_updL
    split
    · exact hX
    · exact hg k
  have nx : ∀ x, x < 16 → ∃ y, y < 16 ∧ (nI x + 1) &&& 15 = nI y := fun x _ => pk_andE _ 4 rfl
  obtain ⟨y, hy, ey⟩ := nx x hx
  have e5 : f 5 + 1 = nI (o + 1) := by rw [eo, nI_1]
  have e4 : (f 4 + 1) &&& 15 = nI y := by rw [ex, ey]
  unfold g_GF_sendInOrder
  split
  · exact ⟨⟨⟨o + 1, by omega, e5⟩, ⟨y, hy, e4⟩, fun c => absurd h3 c, h9, hg' _⟩, hg' _ _⟩
  · exact ⟨⟨⟨o + 1, by omega, e5⟩, ⟨y, hy, e4⟩, fun c => absurd h3 c, h9, hg' _⟩, hg' _ _⟩
set_option maxHeartbeats 4000000 in
set_option maxRecDepth 100000 in
theorem np_5 (f w : Nat → Int32) : (g_TR_nextPdu f w).2.1 5 = f 5 := by
  unfold g_TR_nextPdu
  split
  · split
    · split
      · split
        · rfl
        · rfl
      · rfl
    · rfl
  · rfl
set_option maxHeartbeats 4000000 in
set_option maxRecDepth 100000 in
theorem np_14 (T : Nat → Nat → Int32) (w : Nat → Int32) (t s : Nat) : va_up T t (g_TR_nextPdu (T t) w).2.1 s 14 = T s 14 := by
  by_cases e : s = t
  · rw [e, va_up_self]
    unfold g_TR_nextPdu
    split
    · split
      · split
        · split
          · rfl
          · rfl
        · rfl
      · rfl
    · rfl
  · rw [va_up_ne _ _ e]
/-- parts that sending leaves -/
def Sm (v v' : Vw) : Prop := v'.tm = v.tm ∧ v'.cn = v.cn ∧ v'.wf = v.wf ∧ v'.cv = v.cv ∧ v'.rv = v.rv ∧ (∀ s, v'.tv s 14 = v.tv s 14) ∧ v'.st = v.st
/-- what sending comes to -/
def Snt (N : fl_M) (W : Nat → Nat → Int32) (c n k d : Nat) (R : Int64 × fl_M) (N' : fl_M) : Prop := (∃ v' x, R = (x, XX v') ∧ x ≠ -1 ∧ V N' W = snd0 v' (nI (n + 1)) x ∧ TI N' W c ∧ GI (V N' W).gv (V N' W).gi ∧ WU N' 0 (n + 1) k d ∧ FU N N' ∧ Sm (V N W) v') ∨ (R = (-1, XX (V N W)) ∧ N' = N)
set_option maxHeartbeats 4000000 in
set_option maxRecDepth 100000 in
theorem gs_due (N : fl_M) (W : Nat → Nat → Int32) {c n k d : Nat} {t : Nat} (ht : t < 16) (htc : t < c) (h : TI N W c) (hg : GI (V N W).gv (V N W).gi) (h1 : 1 ≤ d) (h5 : d ≤ 5) (hsp : N.1 0 1 = nI (2 * d + 6)) (hn : n + 1 < 2 ^ 31) (htm : N.1 0 3 = nI (n + 1)) (hk : n ≤ k) (hw : WU N 0 n k d) (hkd : k < n + 1 + d) :
    (¬ N.1 12 t = 0 → Snt N W c n k d (4503599627370496 ||| (g_TR_nextPdu ((V N W).tv t) ((V N W).tw t)).1, pTR (XX (V N W)) (24 + 2 * t) (g_TR_nextPdu ((V N W).tv t) ((V N W).tw t)).2.1 (g_TR_nextPdu ((V N W).tv t) ((V N W).tw t)).2.2) (g_MD_sendDue N (nI t))) ∧ (N.1 12 t = 0 → N.1 0 28 = 0 → ¬ 7 ≤ N.1 0 30 → Snt N W c n k d ((g_GF_sendInOrder (V N W).gv (V N W).gz (V N W).gi (g_TR_nextPdu ((V N W).tv t) ((V N W).tw t)).1).1, pGF (pTR (XX (V N W)) (24 + 2 * t) (g_TR_nextPdu ((V N W).tv t) ((V N W).tw t)).2.1 (g_TR_nextPdu ((V N W).tv t) ((V N W).tw t)).2.2) (g_GF_sendInOrder (V N W).gv (V N W).gz (V N W).gi (g_TR_nextPdu ((V N W).tv t) ((V N W).tw t)).1).2.1 (g_GF_sendInOrder (V N W).gv (V N W).gz (V N W).gi (g_TR_nextPdu ((V N W).tv t) ((V N W).tw t)).1).2.2.1 (g_GF_sendInOrder (V N W).gv (V N W).gz (V N W).gi (g_TR_nextPdu ((V N W).tv t) ((V N W).tw t)).1).2.2.2) (g_MD_sendDue N (nI t))) := by
  obtain ⟨A, a1, a2, a3, a4, a5, a6, a7, a8⟩ := sd_A N W ht htc h h1 h5 hsp
  have e12 : A.1 12 t = N.1 12 t := by
    have h := congrArg (fun v => Vw.tv v t 5) a2
    have h2 : (g_TR_nextPdu ((V N W).tv t) ((V N W).tw t)).2.1 5 = (V N W).tv t 5 := np_5 _ _
    refine h.trans ?_
    show va_up (V N W).tv t _ t 5 = _
    rw [va_up_self, h2]
    rfl
  have wA : WU A 0 n k d := wu_eq hw a5.1 (congrFun a5.2.2 1) (congrFun a5.2.2 3) a7
  have tA : A.1 0 3 = nI (n + 1) := (congrFun a6 3).trans htm
  have fA : FU N A := FU.of a5.2.1 (congrFun a5.2.2 0) (congrFun a6 4) a5.1 (congrFun a5.2.2 1) (congrFun a5.2.2 3) a7
  have gA : (V A W).gv = (V N W).gv ∧ (V A W).gz = (V N W).gz ∧ (V A W).gi = (V N W).gi := by rw [a2]; exact ⟨rfl, rfl, rfl⟩
  have pX : pTR (XX (V N W)) (24 + 2 * t) (g_TR_nextPdu ((V N W).tv t) ((V N W).tw t)).2.1 (g_TR_nextPdu ((V N W).tv t) ((V N W).tw t)).2.2 = XX (V A W) := by
    rw [X_pTR _ ht, a3, va_up_id, a2]
  rw [pX, a1, e12]
  generalize (g_TR_nextPdu ((V N W).tv t) ((V N W).tw t)).1 = I at a8
  refine ⟨fun hl => ?_, fun hl hs ho => ?_⟩
  · unfold sdF
    rw [if_neg hl]
    obtain ⟨s1, s2⟩ := up_send A W (I ||| 4503599627370496) hn tA h5 hk wA hkd
    refine Or.inl ⟨V A W, I ||| 4503599627370496, by rw [Int64.or_comm], nn_ne (or_nn a8 (by decide)), s1, ?_, ?_, s2, fA.t (fu_send _ _), by rw [a2]; exact ⟨rfl, rfl, rfl, rfl, rfl, fun s => np_14 _ _ _ _, rfl⟩⟩
    · exact ti_same a4 (by rw [s1]; rfl) (send_c _ _ _ (by decide) (by decide) (by decide)) (send_c _ _ _ (by decide) (by decide) (by decide))
    · rw [s1]
      show GI (V A W).gv (V A W).gi
      rw [gA.1, gA.2.2]; exact hg
  · unfold sdF
    rw [if_pos hl]
    obtain ⟨s1, s2⟩ := po_v A W I hn tA h5 hk wA hkd
    rw [gA.1, gA.2.1, gA.2.2] at s1
    obtain ⟨g1, g2⟩ := gi_sio (z := (V N W).gz) a8 hg ho hs
    generalize g_GF_sendInOrder (V N W).gv (V N W).gz (V N W).gi I = G at s1 g1 g2 ⊢
    have eX : pGF (XX (V A W)) G.2.1 G.2.2.1 G.2.2.2 = XX (pG (V A W) G.2) := X_pGF' _ _
    rw [eX]
    have fB := fu_poB A (A.1 0 29) I
    refine Or.inl ⟨pG (V A W) G.2, G.1, rfl, nn_ne g2, s1, ?_, ?_, s2, fA.t (fB.1.t (fu_post _)), by rw [a2]; exact ⟨rfl, rfl, rfl, rfl, rfl, fun s => np_14 _ _ _ _, rfl⟩⟩
    · exact ti_same a4 (by rw [s1]; rfl) ((po_9 _).1.trans fB.2.1) ((po_9 _).2.trans fB.2.2)
    · rw [s1]
      exact g1
