/-! transactions: what holds of them stays so in step 5 -/
set_option maxHeartbeats 4000000 in
set_option maxRecDepth 100000 in
theorem bk_lo : ∀ k, k < 16 → (262144 &&& ((1 : Int32) <<< (nI k &&& 31)) = 0) ∧ (131072 &&& ((1 : Int32) <<< (nI k &&& 31)) = 0) ∧ (65536 &&& ((1 : Int32) <<< (nI k &&& 31)) = 0) := by decide +kernel
set_option maxHeartbeats 4000000 in
set_option maxRecDepth 100000 in
theorem bk_and (d : Int32) {k : Nat} (hk : k < 16) : (d &&& 262144) &&& ((1 : Int32) <<< (nI k &&& 31)) = 0 := by
  rw [Int32.and_assoc, (bk_lo k hk).1, Int32.and_zero]
set_option maxHeartbeats 4000000 in
set_option maxRecDepth 100000 in
theorem bk_or (d : Int32) {k : Nat} (hk : k < 16) : (d ||| 131072) &&& ((1 : Int32) <<< (nI k &&& 31)) = d &&& ((1 : Int32) <<< (nI k &&& 31)) := by
  rw [i_orr, (bk_lo k hk).2.1, Int32.or_zero]
set_option maxHeartbeats 4000000 in
set_option maxRecDepth 100000 in
theorem or_b (d : Int32) {m : Int32} (hm : m ≠ 0) : (d ||| m) &&& m ≠ 0 := by
  rw [i_orr, Int32.and_self]
  intro c
  have h := congrArg (fun z => z &&& m) c
  rw [i_orr, Int32.and_self, Int32.and_assoc, Int32.and_self, Int32.zero_and] at h
  have h6 : m &&& ((d &&& m) ||| m) = m := by
    rw [i_or, Int32.and_self]
    refine Int32.toBitVec_inj.1 ?_
    rw [Int32.toBitVec_or, Int32.toBitVec_and, Int32.toBitVec_and]
    ext i hi
    simp only [BitVec.getElem_or, BitVec.getElem_and]
    cases m.toBitVec[i] <;> cases d.toBitVec[i] <;> rfl
  rw [c, Int32.and_zero] at h6
  exact hm h6.symm
set_option maxHeartbeats 4000000 in
set_option maxRecDepth 100000 in
theorem tp_end {f w y : Nat → Int32} {es : Int32} {P : Prop} (hP : P) (x : Int32) (h : TP f es w y P) : TP (g_TR_endWith f w x).1 es w y P := by
  obtain ⟨⟨n, h1, h2, h3, h4⟩, h5, h6⟩ := h
  refine ⟨⟨n, h1, h2, fun k hk hb => ?_, h4⟩, h5, fun _ c => absurd c (show ¬ (1 : Int32) = 0 by decide)⟩
  exact absurd (bk_and (f 6) hk) hb
set_option maxHeartbeats 4000000 in
set_option maxRecDepth 100000 in
theorem tp_u {f w y : Nat → Int32} {es : Int32} {P : Prop} {k : Nat} {v : Int32} (h3 : k ≠ 3) (h6 : k ≠ 6) (h8 : k ≠ 8) (h14 : k ≠ 14) (h : TP f es w y P) : TP (upd f k v) es w y P := by
  have e3 : upd f k v 3 = f 3 := pk_un (Ne.symm h3)
  have e6 : upd f k v 6 = f 6 := pk_un (Ne.symm h6)
  have e8 : upd f k v 8 = f 8 := pk_un (Ne.symm h8)
  have e14 : upd f k v 14 = f 14 := pk_un (Ne.symm h14)
  unfold TP
  rw [e3, e6, e8, e14]
  exact h
set_option maxHeartbeats 4000000 in
set_option maxRecDepth 100000 in
theorem tp_due {f w y : Nat → Int32} {es : Int32} {P : Prop} (h : TP f es w y P) : TP (upd f 6 (f 6 ||| 131072)) 0 w y P := by
  obtain ⟨⟨n, h1, h2, h3, h4⟩, h5, h6⟩ := h
  refine ⟨⟨n, h1, h2, fun k hk hb => h3 k hk ?_, h4⟩, fun _ => rfl, fun _ _ => ⟨⟨fun c => absurd rfl c, fun c => absurd c (or_b (f 6) (m := 131072) (by decide))⟩, fun c => absurd rfl c⟩⟩
  have hb : (f 6 ||| 131072) &&& ((1 : Int32) <<< (nI k &&& 31)) ≠ 0 := hb
  rw [bk_or _ hk] at hb
  exact hb
set_option maxHeartbeats 4000000 in
set_option maxRecDepth 100000 in
theorem tp_clk {f w y : Nat → Int32} {es : Int32} {P : Prop} {v : Int32} (hv : 0 < v) (h : TP f es w y P) : TP (upd f 8 v) es w y P :=
  ⟨h.1, h.2.1, fun a b => ⟨(h.2.2 a b).1, fun _ => hv⟩⟩
set_option maxHeartbeats 4000000 in
set_option maxRecDepth 100000 in
/-- once ended the clock may be what it will -/
theorem tp_clkE {f w y : Nat → Int32} {es : Int32} {P : Prop} {v x : Int32} (hP : P) (h : TP f es w y P) : TP (g_TR_endWith (upd f 8 v) w x).1 es w y P := by
  obtain ⟨⟨n, h1, h2, h3, h4⟩, h5, h6⟩ := h
  exact ⟨⟨n, h1, h2, fun k hk hb => absurd (bk_and (f 6) hk) hb, h4⟩, h5, fun _ c => absurd c (show ¬ (1 : Int32) = 0 by decide)⟩
set_option maxHeartbeats 4000000 in
set_option maxRecDepth 100000 in
theorem tp_clkD {f w y : Nat → Int32} {es : Int32} {P : Prop} {v x : Int32} (h : TP f es w y P) : TP (upd (upd (upd f 8 v) 7 x) 6 (f 6 ||| 131072)) 0 w y P := by
  obtain ⟨⟨n, h1, h2, h3, h4⟩, h5, h6⟩ := h
  refine ⟨⟨n, h1, h2, fun k hk hb => h3 k hk ?_, h4⟩, fun _ => rfl, fun _ _ => ⟨⟨fun c => absurd rfl c, fun c => absurd c (or_b (f 6) (m := 131072) (by decide))⟩, fun c => absurd rfl c⟩⟩
  have hb : (f 6 ||| 131072) &&& ((1 : Int32) <<< (nI k &&& 31)) ≠ 0 := hb
  rw [bk_or _ hk] at hb
  exact hb
/-- raw cells that stay -/
def Fr (N N' : fl_M) : Prop := N'.1 2 = N.1 2 ∧ N'.1 9 = N.1 9 ∧ N'.2 = N.2
set_option maxHeartbeats 4000000 in
set_option maxRecDepth 100000 in
theorem Fr.r (N : fl_M) : Fr N N := ⟨rfl, rfl, rfl⟩
set_option maxHeartbeats 4000000 in
set_option maxRecDepth 100000 in
theorem Fr.t {N N1 N2 : fl_M} (h : Fr N N1) (h' : Fr N1 N2) : Fr N N2 := ⟨h'.1.trans h.1, h'.2.1.trans h.2.1, h'.2.2.trans h.2.2⟩
set_option maxHeartbeats 4000000 in
set_option maxRecDepth 100000 in
theorem Fr.i {N N' : fl_M} {c j : Nat} {x : Int32} (h2 : 2 ≠ c) (h9 : 9 ≠ c) (h : Fr N N') : Fr N (fl_i N' c j x) := ⟨(fi_ne h2).trans h.1, (fi_ne h9).trans h.2.1, h.2.2⟩
set_option maxHeartbeats 4000000 in
set_option maxRecDepth 100000 in
theorem Fr.if {p : Prop} [Decidable p] {N A B : fl_M} (ha : Fr N A) (hb : Fr N B) : Fr N (if p then A else B) := by
  split
  · exact ha
  · exact hb
set_option maxHeartbeats 4000000 in
set_option maxRecDepth 100000 in
theorem gc_frame (N : fl_M) (x : Int32) : Fr N (g_MD_groundClocks N x) ∧ (∀ s, s ≠ x.toNatClampNeg → (g_MD_groundClocks N x).1 19 s = N.1 19 s) ∧ ∀ j, j ≠ 4 → (g_MD_groundClocks N x).1 0 j = N.1 0 j := by
  unfold g_MD_groundClocks
  split
  · split
    · split
      · split
        · exact ⟨Fr.r N, fun _ _ => rfl, fun _ _ => rfl⟩
        · split
          · split
            · exact ⟨⟨rfl, rfl, rfl⟩, fun _ _ => rfl, fun j hj => fi_0 hj⟩
            · exact ⟨⟨rfl, rfl, rfl⟩, fun s hs => (congrFun fi_at s).trans (pk_un hs), fun _ _ => rfl⟩
          · exact ⟨⟨rfl, rfl, rfl⟩, fun _ _ => rfl, fun _ _ => rfl⟩
      · split
        · exact ⟨⟨rfl, rfl, rfl⟩, fun _ _ => rfl, fun j hj => fi_0 hj⟩
        · exact ⟨⟨rfl, rfl, rfl⟩, fun _ _ => rfl, fun _ _ => rfl⟩
    · exact ⟨Fr.r N, fun _ _ => rfl, fun _ _ => rfl⟩
  · exact ⟨Fr.r N, fun _ _ => rfl, fun _ _ => rfl⟩
set_option maxHeartbeats 4000000 in
set_option maxRecDepth 100000 in
theorem tp_gc (N : fl_M) (W : Nat → Nat → Int32) {t : Nat} (ht : t < 16) {P : Prop} (hP : P) (hp : TP ((V N W).tv t) (N.1 19 t) (W t) (yw N t) P) : TP (g_TR_stepClocks ((V N W).tv t) ((V N W).tw t)).1 ((g_MD_groundClocks N (nI t)).1 19 t) (W t) (yw N t) P := by
  have e6 : (V N W).tv t 6 = N.1 15 t := rfl
  have e7 : (V N W).tv t 7 = N.1 20 t := rfl
  have e8 : (V N W).tv t 8 = N.1 21 t := rfl
  have e9 : (V N W).tv t 9 = N.1 22 t := rfl
  have e11 : (V N W).tv t 11 = N.1 17 t := rfl
  have e13 : (V N W).tv t 13 = N.1 18 t := rfl
  have e14 : (V N W).tv t 14 = N.1 13 t := rfl
  have hq := hp.2.2 hP
  rw [e14, e6, e8] at hq
  unfold g_MD_groundClocks g_TR_stepClocks
  rw [clN ht, e14, e13, e11, e6]
  by_cases h1 : N.1 13 t = 0
  · obtain ⟨q1, q2⟩ := hq h1
    simp only [if_pos h1]
    by_cases h2 : N.1 18 t = 0
    · simp only [if_pos h2]
      by_cases h3 : N.1 17 t = 0
      · simp only [if_pos h3]
        by_cases h4 : N.1 19 t = 0
        · have h5 : ¬ N.1 15 t &&& 131072 = 0 := fun c => (q1.2 c) h4
          simp only [if_pos h4, if_neg h5]
          exact hp
        · have h5 := q1.1 h4
          have h6 := q2 h4
          simp only [if_neg h4, if_pos h5, fi_s]
          unfold g_TR_stepClock
          simp only [e8, e7, pos_pred h6]
          by_cases h7 : N.1 21 t - 1 = 0
          · simp only [if_pos h7]
            by_cases h8 : N.1 20 t = 4
            · simp only [if_pos h8]
              exact tp_clkE hP hp
            · simp only [if_neg h8]
              have e : (g_MD_makeEndDue (fl_i (fl_i N 21 t (N.1 21 t - 1)) 20 t (N.1 20 t + 1)) (nI t)).1 19 t = 0 := by
                unfold g_MD_makeEndDue
                rw [clN ht]
                exact fi_s
              rw [e]
              exact tp_clkD hp
          · simp only [if_neg h7]
            exact tp_clk (pred_pos h6 (fun c => h7 ((pos_pred h6).1 c))) hp
      · simp only [if_neg h3, fi_s]
        unfold g_TR_stepIdle
        simp only [e9]
        by_cases h7 : N.1 22 t - 1 = 0
        · simp only [if_pos h7]
          exact tp_end hP 4 (tp_u (by decide) (by decide) (by decide) (by decide) hp)
        · simp only [if_neg h7]
          exact tp_u (by decide) (by decide) (by decide) (by decide) hp
    · simp only [if_neg h2]
      exact hp
  · simp only [if_neg h1]
    exact hp
set_option maxHeartbeats 4000000 in
set_option maxRecDepth 100000 in
/-- one transaction changed -/
theorem ti_up {N N1 : fl_M} {W : Nat → Nat → Int32} {c t : Nat} {f : Nat → Int32} (h : TI N W c) (e : (V N1 W).tv = va_up (V N W).tv t f) (h9 : N1.1 9 = N.1 9) (h19 : ∀ s, s ≠ t → N1.1 19 s = N.1 19 s) (hf : TP f (N1.1 19 t) (W t) (yw N t) (t < c)) : TI N1 W c := by
  intro s hs
  have ey : yw N1 s = yw N s := by unfold yw; rw [h9]
  rw [e, ey]
  by_cases h1 : s = t
  · rw [h1, va_up_self]; exact hf
  · rw [va_up_ne _ _ h1, h19 s h1]; exact h s hs
set_option maxHeartbeats 4000000 in
set_option maxRecDepth 100000 in
theorem s_gc1 (N : fl_M) (W : Nat → Nat → Int32) {t c : Nat} (ht : t < 16) (hc : t < c) (h : TI N W c) : pTR (XX (V N W)) (24 + 2 * t) ((g_TR_stepClocks ((XX (V N W)).1 (24 + 2 * t)) ((XX (V N W)).1 (24 + 2 * t + 1))).1) ((g_TR_stepClocks ((XX (V N W)).1 (24 + 2 * t)) ((XX (V N W)).1 (24 + 2 * t + 1))).2) = XX (V (g_MD_groundClocks N (nI t)) W) ∧ TI (g_MD_groundClocks N (nI t)) W c := by
  have e := s_gc N W ht hc (h t ht)
  obtain ⟨f1, f2, f3⟩ := gc_frame N (nI t)
  rw [clN ht] at f2
  refine ⟨?_, ti_up h (by rw [e]; rfl) f1.2.1 f2 (tp_gc N W ht hc (h t ht))⟩
  rw [X_tv _ ht, X_tw _ ht, X_pTR _ ht, tr_w, va_up_id, e]
set_option maxHeartbeats 4000000 in
set_option maxRecDepth 100000 in
theorem s_gcL (W : Nat → Nat → Int32) {c : Nat} (hc : c ≤ 16) : ∀ k i (N : fl_M), i + k ≤ c → TI N W c → g_GR_stepClocks_L9 k i (XX (V N W)) = XX (V (g_MD_tick_L79 k i N) W) ∧ TI (g_MD_tick_L79 k i N) W c ∧ Fr N (g_MD_tick_L79 k i N) ∧ ∀ j, j ≠ 4 → (g_MD_tick_L79 k i N).1 0 j = N.1 0 j := by
  intro k
  induction k with
  | zero => intro i N _ h; exact ⟨rfl, h, Fr.r N, fun _ _ => rfl⟩
  | succ k ih =>
    intro i N hi h
    have h1 := s_gc1 N W (t := i) (by omega) (by omega) h
    have h2 := ih (i + 1) _ (by omega) h1.2
    obtain ⟨f1, f2, f3⟩ := gc_frame N (nI i)
    refine ⟨?_, h2.2.1, f1.t h2.2.2.1, fun j hj => (h2.2.2.2 j hj).trans (f3 j hj)⟩
    rw [← clN (show i < 16 by omega)] at h1
    show g_GR_stepClocks_L9 k (i + 1) _ = XX (V (g_MD_tick_L79 k (i + 1) _) W)
    rw [h1.1]
    rw [clN (show i < 16 by omega)]
    exact h2.1
