/-! the questions: class and reference answer alike -/
set_option maxHeartbeats 4000000 in
set_option maxRecDepth 100000 in
theorem bo {x b h : Int32} (hb : b.toInt = h.toInt + 1) : (g_FL_isBelow x b = 0) ↔ ¬ (g_MD_outside x h = 0) := by
  unfold g_FL_isBelow g_MD_outside
  by_cases h0 : x < 0
  · rw [if_pos h0, if_pos h0]; exact ⟨fun _ => by decide, fun _ => rfl⟩
  · rw [if_neg h0, if_neg h0]
    by_cases h1 : x ≤ h
    · rw [if_pos h1, if_neg (fun c => by rw [Int32.le_iff_toInt_le] at h1 c; omega)]
      exact ⟨fun c => absurd c (by decide), fun c => absurd rfl c⟩
    · rw [if_neg h1, if_pos (by rw [Int32.le_iff_toInt_le] at h1 ⊢; omega)]
      exact ⟨fun _ => by decide, fun _ => rfl⟩
set_option maxHeartbeats 4000000 in
set_option maxRecDepth 100000 in
theorem b_in {x : Int32} {b : Nat} (hb : b < 2 ^ 31) (h : ¬ g_FL_isBelow x (nI b) = 0) : ∃ j, j < b ∧ x = nI j := by
  unfold g_FL_isBelow at h
  by_cases h0 : x < 0
  · rw [if_pos h0] at h; exact absurd rfl h
  · obtain ⟨j, hj, rfl⟩ := nI_of h0
    rw [if_neg h0] at h
    by_cases h1 : nI b ≤ nI j
    · rw [if_pos h1] at h; exact absurd rfl h
    · refine ⟨j, ?_, rfl⟩
      rcases Nat.lt_or_ge j b with a | a
      · exact a
      · exact absurd (nI_le a hj) h1
set_option maxHeartbeats 4000000 in
set_option maxRecDepth 100000 in
theorem q_time (N : fl_M) (W : Nat → Nat → Int32) : g_FL_time (XX (V N W)) = g_MD_time N := rfl
set_option maxHeartbeats 4000000 in
set_option maxRecDepth 100000 in
theorem q_report (N : fl_M) (W : Nat → Nat → Int32) : g_FL_report (XX (V N W)) = g_MD_report N := rfl
set_option maxHeartbeats 4000000 in
set_option maxRecDepth 100000 in
theorem q_alerts (N : fl_M) (W : Nat → Nat → Int32) : g_FL_alerts (XX (V N W)) = g_MD_alerts N := rfl
set_option maxHeartbeats 4000000 in
set_option maxRecDepth 100000 in
theorem q_sent (N : fl_M) (W : Nat → Nat → Int32) (x : Int32) : g_FL_sent (XX (V N W)) x = g_MD_sent N x := by
  unfold g_FL_sent g_MD_sent g_FL_way
  split
  · rfl
  · rfl
set_option maxHeartbeats 4000000 in
set_option maxRecDepth 100000 in
theorem q_faults (N : fl_M) (W : Nat → Nat → Int32) (x : Int32) : g_FL_faults (XX (V N W)) x = g_MD_faults N x := by
  unfold g_FL_faults g_MD_faults g_FL_way
  split
  · rfl
  · rfl
set_option maxHeartbeats 4000000 in
set_option maxRecDepth 100000 in
theorem q_encode (N : fl_M) (hM : N.2 0 2 = 121991) (x : Int32) (y : Int64) : g_FL_encode x y = g_MD_encode N x y := by
  unfold g_FL_encode
  by_cases h : x = 0
  · rw [if_pos h, h]; exact dc_block hM y
  · rw [if_neg h]; exact uc_block N y h
set_option maxHeartbeats 4000000 in
set_option maxRecDepth 100000 in
theorem q_decode (x : Int32) (y : Int64) : g_FL_decode x y = g_MD_decode x y := by
  unfold g_FL_decode g_MD_decode
  rw [dn_info, uc_info]
set_option maxHeartbeats 4000000 in
set_option maxRecDepth 100000 in
theorem q_has (N : fl_M) (W : Nat → Nat → Int32) {c : Nat} (hc : N.1 0 13 = nI c) (hc16 : c ≤ 16) (x : Int32) : (g_GR_has (XX (V N W)) x = 0 ∧ (x < 0 ∨ N.1 0 13 ≤ x)) ∨ (¬ g_GR_has (XX (V N W)) x = 0 ∧ ¬ x < 0 ∧ ¬ N.1 0 13 ≤ x ∧ ∃ j, j < c ∧ x = nI j) := by
  have e : g_GR_has (XX (V N W)) x = g_FL_isBelow x (nI c) := by
    unfold g_GR_has
    rw [X_10]
    show g_FL_isBelow x (N.1 0 13) = _
    rw [hc]
  rw [e]
  by_cases h : g_FL_isBelow x (nI c) = 0
  · refine Or.inl ⟨h, ?_⟩
    unfold g_FL_isBelow at h
    by_cases h0 : x < 0
    · exact Or.inl h0
    · rw [if_neg h0] at h
      by_cases h1 : nI c ≤ x
      · exact Or.inr (by rw [hc]; exact h1)
      · rw [if_neg h1] at h; exact absurd h (by decide)
  · obtain ⟨j, hj, rfl⟩ := b_in (by omega) h
    exact Or.inr ⟨h, nI_pos (by omega), by rw [hc]; exact nI_ge hj (by omega), j, hj, rfl⟩
set_option maxHeartbeats 4000000 in
set_option maxRecDepth 100000 in
theorem q_outcome (N : fl_M) (W : Nat → Nat → Int32) {c : Nat} (hc : N.1 0 13 = nI c) (hc16 : c ≤ 16) (h : RA N W) (x1 x2 : Int32) : g_FL_outcome (XX (V N W)) x1 x2 = g_MD_outcome N x1 x2 := by
  unfold g_FL_outcome g_MD_outcome
  by_cases h1 : x1 = 0
  · rw [if_pos h1, if_pos h1]
    rcases q_has N W hc hc16 x2 with ⟨a, b⟩ | ⟨a, b, b', j, hj, rfl⟩
    · rw [if_pos a]
      by_cases b0 : x2 < 0
      · rw [if_pos b0]
      · rw [if_neg b0, if_neg (fun c' => by have b := b.resolve_left b0; rw [Int32.le_iff_toInt_le] at b; rw [Int32.lt_iff_toInt_lt] at c'; omega)]
    · rw [if_neg a, if_neg b, if_pos (by rw [Int32.le_iff_toInt_le] at b'; rw [Int32.lt_iff_toInt_lt]; omega), clN (show j < 16 by omega), X_tv _ (show j < 16 by omega)]
      rfl
  · rw [if_neg h1, if_neg h1]
    have e := bo (x := x2) (b := 16) (h := 15) rfl
    by_cases h2 : g_FL_isBelow x2 16 = 0
    · rw [if_pos h2, if_neg (e.1 h2)]
    · obtain ⟨j, hj, rfl⟩ := b_in (b := 16) (by decide) h2
      rw [if_neg h2, if_pos (Decidable.byContradiction fun c' => h2 (e.2 c')), clN hj, X_rv _ hj]
      unfold g_CR_result
      have e2 : (V N W).rv j 2 = N.1 25 j := rfl
      have e3 : (V N W).rv j 3 = N.1 26 j := rfl
      rw [e2, e3]
      rcases (h j hj).1.st with s | s | s | s
      · have s : N.1 25 j = 0 := s
        rw [s, if_neg (by decide), if_neg (by decide), if_neg (by decide), if_pos rfl]
      · have s : N.1 25 j = 1 := s
        rw [s, if_pos rfl, if_neg (by decide), if_pos rfl]
      · have s : N.1 25 j = 2 := s
        rw [s, if_neg (by decide), if_pos rfl, if_neg (by decide), if_neg (by decide), if_neg (by decide)]
        exact (Int32.add_zero _).symm
      · have s : N.1 25 j = 3 := s
        rw [s, if_neg (by decide), if_neg (by decide), if_pos rfl, if_neg (by decide), if_neg (by decide), if_pos rfl]
        exact Int32.add_comm _ _
set_option maxHeartbeats 4000000 in
set_option maxRecDepth 100000 in
theorem q_taken (N : fl_M) (W : Nat → Nat → Int32) (x1 x2 : Int32) : g_FL_taken (XX (V N W)) x1 x2 = g_MD_taken N x1 x2 := by
  unfold g_FL_taken g_MD_taken
  have e1 := bo (x := x1) (b := 16) (h := 15) rfl
  have e2 := bo (x := x2) (b := 16) (h := 15) rfl
  by_cases h1 : g_FL_isBelow x1 16 = 0
  · rw [if_pos h1, if_neg (e1.1 h1)]
  · obtain ⟨t, ht, rfl⟩ := b_in (b := 16) (by decide) h1
    rw [if_neg h1, if_pos (Decidable.byContradiction fun c' => h1 (e1.2 c'))]
    by_cases h2 : g_FL_isBelow x2 16 = 0
    · rw [if_pos h2, if_neg (e2.1 h2)]
    · obtain ⟨k, hk, rfl⟩ := b_in (b := 16) (by decide) h2
      rw [if_neg h2, if_pos (Decidable.byContradiction fun c' => h2 (e2.2 c')), clN ht, X_rw _ ht, ix16 ht hk, clN hk]
      exact if_pos hk
set_option maxHeartbeats 4000000 in
set_option maxRecDepth 100000 in
theorem q_missing (N : fl_M) (W : Nat → Nat → Int32) (x1 : Int32) : g_FL_missing (XX (V N W)) x1 = g_MD_missing N x1 := by
  unfold g_FL_missing g_MD_missing
  have e1 := bo (x := x1) (b := 16) (h := 15) rfl
  by_cases h1 : g_FL_isBelow x1 16 = 0
  · rw [if_pos h1, if_neg (e1.1 h1)]
  · obtain ⟨t, ht, rfl⟩ := b_in (b := 16) (by decide) h1
    rw [if_neg h1, if_pos (Decidable.byContradiction fun c' => h1 (e1.2 c')), clN ht, X_rv _ ht, X_rw _ ht]
    have e2 : (V N W).rv t 2 = N.1 25 t := rfl
    rw [e2]
    by_cases h2 : N.1 25 t = 0
    · rw [if_pos h2, if_pos h2]
    · rw [if_neg h2, if_neg h2]
      unfold g_CR_missingParts
      exact Int32.and_comm _ _
/-- the lengths in the store -/
def SL (N : fl_M) : Prop := ∀ f, f < 4 → ∃ l, l ≤ 16 ∧ N.1 39 f = nI l
set_option maxHeartbeats 4000000 in
set_option maxRecDepth 100000 in
theorem q_stored (N : fl_M) (W : Nat → Nat → Int32) (hs : SL N) (x1 x2 : Int32) : g_FL_stored (XX (V N W)) x1 x2 = g_MD_stored N x1 x2 := by
  unfold g_FL_stored g_MD_stored
  have e1 := bo (x := x1) (b := 4) (h := 3) rfl
  by_cases h1 : g_FL_isBelow x1 4 = 0
  · rw [if_pos h1, if_neg (e1.1 h1)]
  · obtain ⟨f, hf, rfl⟩ := b_in (b := 4) (by decide) h1
    rw [if_neg h1, if_pos (Decidable.byContradiction fun c' => h1 (e1.2 c'))]
    unfold g_CT_storedAt
    obtain ⟨l, hl, el⟩ := hs f hf
    have es : (V N W).st f = nI l := el
    rw [nI_clamp (show f < 2 ^ 31 by omega), X_18, X_sw _ hf, es, el]
    by_cases h2 : x2 = -1
    · rw [if_pos h2, if_pos (by rw [h2]; decide), if_pos h2]
    · rw [if_neg h2]
      by_cases h3 : g_FL_isBelow x2 (nI l) = 0
      · rw [if_pos h3]
        by_cases h4 : (-1) ≤ x2
        · rw [if_pos h4, if_neg h2]
          have h0 : ¬ x2 < 0 := fun c' => h2 (by
            rw [Int32.lt_iff_toInt_lt] at c'
            rw [Int32.le_iff_toInt_le] at h4
            refine Int32.toInt_inj.1 ?_
            have a : (-1 : Int32).toInt = -1 := rfl
            have b : (0 : Int32).toInt = 0 := rfl
            omega)
          unfold g_FL_isBelow at h3
          rw [if_neg h0] at h3
          by_cases h5 : nI l ≤ x2
          · rw [if_pos h5]
          · rw [if_neg h5] at h3; exact absurd h3 (by decide)
        · rw [if_neg h4]
      · obtain ⟨k, hk, rfl⟩ := b_in (by omega) h3
        rw [if_neg h3, if_pos (by
          rw [Int32.le_iff_toInt_le, nI_toInt (show k < 2 ^ 31 by omega)]
          have a : (-1 : Int32).toInt = -1 := rfl
          omega), if_neg h2, if_neg (nI_ge hk (by omega)), nI_clamp (show k < 2 ^ 31 by omega), ix16 (by omega) (by omega)]
        exact if_pos (by omega)
/-- how many are marked -/
def sI (p : Nat → Int32) : Nat → Nat → Int32
  | _, 0 => 0
  | i, k + 1 => p i + sI p (i + 1) k
set_option maxHeartbeats 4000000 in
set_option maxRecDepth 100000 in
theorem sI_r (p : Nat → Int32) : ∀ k i, sI p i (k + 1) = sI p i k + p (i + k) := by
  intro k
  induction k with
  | zero => intro i; show p i + 0 = 0 + p i; rw [Int32.add_zero, Int32.zero_add]
  | succ k ih =>
    intro i
    show p i + sI p (i + 1) (k + 1) = (p i + sI p (i + 1) k) + p (i + (k + 1))
    rw [ih, Int32.add_assoc, show i + 1 + k = i + (k + 1) by omega]
set_option maxHeartbeats 4000000 in
set_option maxRecDepth 100000 in
theorem cm_L (f z : Nat → Int32) (g : Nat → Int64) : ∀ k cm, g_GF_countMarked_L7 f z g k cm = cm + sI (fun a => if z (ixx (f 4) a) = 0 then 0 else 1) 1 k := by
  intro k
  induction k with
  | zero => intro cm; exact (Int32.add_zero cm).symm
  | succ k ih =>
    intro cm
    rw [sI_r]
    unfold g_GF_countMarked_L7
    rw [ih, ih, show 1 + k = k + 1 by omega]
    show (if z (ixx (f 4) (k + 1)) = 0 then _ else _) = _
    split
    · rw [Int32.add_zero]
    · rw [Int32.add_assoc, Int32.add_comm (Int32.ofInt 1)]; rfl
set_option maxHeartbeats 4000000 in
set_option maxRecDepth 100000 in
theorem wm_L (N : fl_M) : ∀ k i wm, g_MD_window_L4 N k i wm = wm + sI (fun a => if N.1 24 (ixx (N.1 0 29) a) = 0 then 0 else 1) i k := by
  intro k
  induction k with
  | zero => intro i wm; exact (Int32.add_zero wm).symm
  | succ k ih =>
    intro i wm
    unfold g_MD_window_L4
    rw [ih, ih]
    show (if N.1 24 (ixx (N.1 0 29) i) = 0 then _ else _) = wm + ((if N.1 24 (ixx (N.1 0 29) i) = 0 then 0 else 1) + _)
    split
    · rw [Int32.add_assoc]
    · rw [Int32.add_assoc]
set_option maxHeartbeats 4000000 in
set_option maxRecDepth 100000 in
theorem q_window (N : fl_M) (W : Nat → Nat → Int32) : g_FL_window (XX (V N W)) = g_MD_window N := by
  unfold g_FL_window g_GF_summary g_GF_countMarked g_MD_window
  rw [X_11, X_13, X_g12, cm_L, wm_L]
  rfl
