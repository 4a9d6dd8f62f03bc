/-! how many became ended or closed -/
def S0 (_ : Nat) : Bool := false
def Z4 (j : Nat) : Bool := decide (j = 4)
section
variable {N M : fl_M}
set_option maxHeartbeats 4000000 in
set_option maxRecDepth 100000 in
theorem k4_fin (h : K S0 Z4 N M) (y0 y1 : Int32) : K S0 Z4 N (g_MD_finish M y0 y1) := (K.i (by decide) (by decide) (K.i (by decide) (by decide) (K.i (by decide) (by decide) (K.i (by decide) (by decide) (K.i (by decide) (by decide) (K.i (by decide) (by decide) h))))))
set_option maxHeartbeats 4000000 in
set_option maxRecDepth 100000 in
theorem k4_tak (h : K S0 Z4 N M) (y0 y1 y2 y3 : Int32) : K S0 Z4 N (g_MD_takes M y0 y1 y2 y3).2 := (K.ite2 (K.ite2 h (K.ite2 h (K.ite2 h (K.ite2 (K.i (by decide) (by decide) (K.i (by decide) (by decide) (K.i (by decide) (by decide) (K.i (by decide) (by decide) h)))) h)))) (K.ite2 (K.ite2 h (K.ite2 (K.i (by decide) (by decide) (K.i (by decide) (by decide) (K.i (by decide) (by decide) (K.i (by decide) (by decide) h)))) h)) (K.ite2 (K.ite2 h (K.ite2 (K.i (by decide) (by decide) (K.i (by decide) (by decide) (K.i (by decide) (by decide) h))) h)) (K.ite2 h (K.ite2 h (K.ite2 h (K.ite2 (K.i (by decide) (by decide) (K.i (by decide) (by decide) (K.i (by decide) (by decide) (K.i (by decide) (by decide) h)))) h)))))))
set_option maxHeartbeats 4000000 in
set_option maxRecDepth 100000 in
theorem k4_L153 (x1 x2 : Int32) (M0 : fl_M) : ∀ k i (M : fl_M), K S0 Z4 N M → K S0 Z4 N (g_MD_whole_L153 M0 x1 x2 k i M) := by
  intro k
  induction k with
  | zero => intro i M h; exact h
  | succ k ih => intro i M h; exact ih _ _ (K.i (by decide) (by decide) h)
set_option maxHeartbeats 4000000 in
set_option maxRecDepth 100000 in
theorem k4_who (h : K S0 Z4 N M) (y0 y1 : Int32) : K S0 Z4 N (g_MD_whole M y0 y1) := K.ite h (K.ite (K.ite (K.ite (k4_fin (k4_L153 _ _ _ _ _ _ (K.i (by decide) (by decide) h)) _ _) (k4_fin h _ _)) (k4_fin h _ _)) (K.ite (K.i (by decide) (by decide) (K.i (by decide) (by decide) (K.i (by decide) (by decide) h))) h))
set_option maxHeartbeats 4000000 in
set_option maxRecDepth 100000 in
theorem y04n (h : K S0 Z4 N M) (kd tt po xw : Int32) (hk : ¬ kd = 5) : K S0 Z4 N (yPdu M kd tt po xw) := by
  unfold yPdu
  rw [if_neg hk]
  exact K.ite h (K.ite h (K.ite (K.ite (K.ite (K.ite (K.ite (k4_tak (K.i (by decide) (by decide) (K.i (by decide) (by decide) (K.i (by decide) (by decide) h))) _ _ _ _) (k4_who (k4_tak (K.i (by decide) (by decide) (K.i (by decide) (by decide) (K.i (by decide) (by decide) h))) _ _ _ _) _ _)) (K.ite (K.i (by decide) (by decide) (K.i (by decide) (by decide) h)) (K.i (by decide) (by decide) (K.i (by decide) (by decide) h)))) (K.ite (K.ite (k4_fin (K.i (by decide) (by decide) (K.i (by decide) (by decide) (K.i (by decide) (by decide) h))) _ _) (K.ite (K.i (by decide) (by decide) (K.i (by decide) (by decide) h)) (K.i (by decide) (by decide) (K.i (by decide) (by decide) h)))) (K.ite (K.ite (K.i (by decide) (by decide) (K.i (by decide) (by decide) (K.i (by decide) (by decide) h))) (K.ite (k4_tak (K.i (by decide) (by decide) (K.i (by decide) (by decide) (K.i (by decide) (by decide) h))) _ _ _ _) (k4_who (k4_tak (K.i (by decide) (by decide) (K.i (by decide) (by decide) (K.i (by decide) (by decide) h))) _ _ _ _) _ _))) (K.ite (K.i (by decide) (by decide) (K.i (by decide) (by decide) h)) (K.i (by decide) (by decide) (K.i (by decide) (by decide) h)))))) (K.ite (K.ite (k4_fin (K.i (by decide) (by decide) (K.i (by decide) (by decide) (K.i (by decide) (by decide) h))) _ _) (K.ite (K.i (by decide) (by decide) (K.i (by decide) (by decide) (K.i (by decide) (by decide) h))) (K.ite (k4_tak (K.i (by decide) (by decide) (K.i (by decide) (by decide) (K.i (by decide) (by decide) h))) _ _ _ _) (k4_who (k4_tak (K.i (by decide) (by decide) (K.i (by decide) (by decide) (K.i (by decide) (by decide) h))) _ _ _ _) _ _)))) (K.ite (K.i (by decide) (by decide) (K.i (by decide) (by decide) h)) (K.i (by decide) (by decide) (K.i (by decide) (by decide) h))))) (K.ite (K.ite (K.ite (K.ite (k4_tak (K.i (by decide) (by decide) (K.i (by decide) (by decide) (K.i (by decide) (by decide) h))) _ _ _ _) (k4_who (k4_tak (K.i (by decide) (by decide) (K.i (by decide) (by decide) (K.i (by decide) (by decide) h))) _ _ _ _) _ _)) (K.ite (K.i (by decide) (by decide) (K.i (by decide) (by decide) h)) (K.i (by decide) (by decide) (K.i (by decide) (by decide) h)))) (K.ite (K.ite (k4_fin (K.i (by decide) (by decide) (K.i (by decide) (by decide) (K.i (by decide) (by decide) h))) _ _) (K.ite (K.i (by decide) (by decide) (K.i (by decide) (by decide) h)) (K.i (by decide) (by decide) (K.i (by decide) (by decide) h)))) (K.ite (K.ite (K.i (by decide) (by decide) (K.i (by decide) (by decide) (K.i (by decide) (by decide) h))) (K.ite (k4_tak (K.i (by decide) (by decide) (K.i (by decide) (by decide) (K.i (by decide) (by decide) h))) _ _ _ _) (k4_who (k4_tak (K.i (by decide) (by decide) (K.i (by decide) (by decide) (K.i (by decide) (by decide) h))) _ _ _ _) _ _))) (K.ite (K.i (by decide) (by decide) (K.i (by decide) (by decide) h)) (K.i (by decide) (by decide) (K.i (by decide) (by decide) h)))))) (K.ite (K.ite (k4_fin (K.i (by decide) (by decide) (K.i (by decide) (by decide) (K.i (by decide) (by decide) h))) _ _) (K.ite (K.i (by decide) (by decide) (K.i (by decide) (by decide) (K.i (by decide) (by decide) h))) (K.ite (k4_tak (K.i (by decide) (by decide) (K.i (by decide) (by decide) (K.i (by decide) (by decide) h))) _ _ _ _) (k4_who (k4_tak (K.i (by decide) (by decide) (K.i (by decide) (by decide) (K.i (by decide) (by decide) h))) _ _ _ _) _ _)))) (K.ite (K.i (by decide) (by decide) (K.i (by decide) (by decide) h)) (K.i (by decide) (by decide) (K.i (by decide) (by decide) h)))))))
end
set_option maxHeartbeats 4000000 in
set_option maxRecDepth 100000 in
theorem y04 (N : fl_M) (t : Nat) (ht : t < 16) (k po xw : Int32) : (yPdu N k (nI t) po xw).1 0 4 = N.1 0 4 + (if k = 5 ∧ N.1 25 t = 2 then 1 else 0) := by
  by_cases hk : k = 5
  · subst hk
    unfold yPdu
    rw [if_neg (by decide), if_neg (by decide), if_pos (show (5 : Int32) = 5 from rfl), clN ht, fi_id rfl]
    by_cases h0 : N.1 25 t = 0
    · rw [if_pos h0, if_neg (fun c => by rw [h0] at c; exact absurd c.2 (by decide)), Int32.add_zero]
    · rw [if_neg h0]
      by_cases h2 : N.1 25 t = 2
      · have h1 : ¬ N.1 25 t = 1 := by rw [h2]; decide
        have e : (if (5 : Int32) = 5 ∧ N.1 25 t = 2 then (1 : Int32) else 0) = 1 := if_pos ⟨rfl, h2⟩
        rw [e]
        simp only [if_neg h1, if_pos h2]
        split
        · exact fi_s
        · exact fi_s
      · have e : (if (5 : Int32) = 5 ∧ N.1 25 t = 2 then (1 : Int32) else 0) = 0 := if_neg (fun c => h2 c.2)
        rw [e, Int32.add_zero]
        simp only [if_neg h2]
        split
        · split
          · rfl
          · rfl
        · split
          · rfl
          · rfl
  · rw [if_neg (fun c => hk c.1), Int32.add_zero]
    exact (y04n K.r k (nI t) po xw hk).2.1 4 (by decide)
def cl (f : Nat → Int32) : Int32 := if f 2 = 3 then 1 else 0
def en (f : Nat → Int32) : Int32 := if f 14 = 0 then 0 else 1
set_option maxHeartbeats 4000000 in
set_option maxRecDepth 100000 in
theorem hoF_2 {k : Int32} {T : T3} (h1 : T.2.1 2 = 1) : (hoF k T).2.1 2 ≠ 3 := by
  unfold hoF
  split
  · show T.2.1 2 ≠ 3; rw [h1]; decide
  · split
    · split
      · show (2 : Int32) ≠ 3; decide
      · show (2 : Int32) ≠ 3; decide
    · split
      · show T.2.1 2 ≠ 3; rw [h1]; decide
      · show T.2.1 2 ≠ 3; rw [h1]; decide
set_option maxHeartbeats 4000000 in
set_option maxRecDepth 100000 in
theorem hop_2 {f w : Nat → Int32} {k : Nat} {p x : Int32} (hk : k < 16) (h : RV0 f) (h1 : f 2 = 1) : (g_CR_hearOpen f w (nI k) p x).2.1 2 ≠ 3 := by
  have h9 : RV0 (upd f 9 (12 * f 0)) := rv_set (by decide) (by decide) (by decide) (by decide) (by decide) h
  match k, hk with
  | 1, _ => rw [show nI 1 = 1 from rfl, ho_1]; exact hoF_2 ((rv_m h9).2.trans h1)
  | 2, _ => rw [show nI 2 = 2 from rfl, ho_2]; exact hoF_2 ((rv_d h9).2.trans h1)
  | 3, _ => rw [show nI 3 = 3 from rfl, ho_3]; exact hoF_2 ((rv_e h9).2.trans h1)
  | 4, _ => rw [show nI 4 = 4 from rfl, ho_4]; show (2 : Int32) ≠ 3; decide
  | 0, _ =>
    unfold g_CR_hearOpen
    rw [if_neg (by decide), if_neg (by decide), if_neg (by decide), if_neg (by decide)]
    show f 2 ≠ 3; rw [h1]; decide
  | n + 5, hk =>
    have this : ∀ m, m < 16 → 5 ≤ m → ¬ nI m = 4 ∧ ¬ nI m = 1 ∧ ¬ nI m = 2 ∧ ¬ nI m = 3 := by decide +kernel
    obtain ⟨a, b, c, d⟩ := this (n + 5) hk (by omega)
    unfold g_CR_hearOpen
    rw [if_neg a, if_neg b, if_neg c, if_neg d]
    show f 2 ≠ 3; rw [h1]; decide
set_option maxHeartbeats 4000000 in
set_option maxRecDepth 100000 in
theorem cl0 {f : Nat → Int32} (h : f 2 ≠ 3) : cl f = 0 := if_neg h
set_option maxHeartbeats 4000000 in
set_option maxRecDepth 100000 in
theorem h04 {f w : Nat → Int32} {k : Nat} {p x : Int32} (hk : k < 16) (h : RV f) : cl (g_CR_hear f w (nI k) p x).2.1 = cl f + (if nI k = 5 ∧ f 2 = 2 then 1 else 0) := by
  have z := h.z
  unfold g_CR_hear
  by_cases c0 : g_CR_looksAt f w (nI k) = 0
  · rw [if_pos c0]
    have n : ¬ (nI k = 5 ∧ f 2 = 2) := fun c => by
      unfold g_CR_looksAt at c0
      rw [c.1, c.2] at c0
      exact absurd c0 (by decide)
    rw [if_neg n, Int32.add_zero]
  · rw [if_neg c0]
    by_cases c1 : f 2 = 0
    · have e0 : cl f = 0 := cl0 (by rw [c1]; decide)
      have n : ¬ (nI k = 5 ∧ f 2 = 2) := fun c => by rw [c1] at c; exact absurd c.2 (by decide)
      have a1 : cl (g_CR_hearOpen (upd (upd f 2 1) 12 1) w (nI k) p x).2.1 = 0 := cl0 (hop_2 hk (rv_got (Or.inr rfl) (rv_open z c1)) rfl)
      have a2 : cl (g_CR_hearOpen (upd f 2 1) w (nI k) p x).2.1 = 0 := cl0 (hop_2 hk (rv_open z c1) rfl)
      rw [if_pos c1, if_neg n, Int32.add_zero, e0]
      split
      · exact a1
      · split
        · exact a1
        · exact a2
    · rw [if_neg c1]
      by_cases c4 : f 2 = 1
      · have e0 : cl f = 0 := cl0 (by rw [c4]; decide)
        have n : ¬ (nI k = 5 ∧ f 2 = 2) := fun c => by rw [c4] at c; exact absurd c.2 (by decide)
        have a1 : cl (g_CR_hearOpen (upd f 12 1) w (nI k) p x).2.1 = 0 := cl0 (hop_2 hk (rv_got (Or.inr rfl) z) c4)
        have a2 : cl (g_CR_hearOpen f w (nI k) p x).2.1 = 0 := cl0 (hop_2 hk z c4)
        simp only [if_pos c4]
        rw [if_neg n, Int32.add_zero, e0]
        split
        · exact a1
        · split
          · exact a1
          · exact a2
      · simp only [if_neg c4]
        by_cases c2 : f 2 = 2
        · have e0 : cl f = 0 := cl0 (by rw [c2]; decide)
          have e1 : cl (upd f 12 1) = 0 := cl0 (by show f 2 ≠ 3; rw [c2]; decide)
          simp only [if_pos c2]
          rw [e0]
          by_cases k5 : nI k = 5
          · have k3 : ¬ nI k = 3 := by rw [k5]; decide
            have k4 : ¬ nI k = 4 := by rw [k5]; decide
            rw [if_neg k3, if_neg k4, if_pos k5, if_pos ⟨k5, c2⟩]
            rfl
          · have e : (if nI k = 5 ∧ f 2 = 2 then (1 : Int32) else 0) = 0 := if_neg (fun c => k5 c.1)
            rw [e, Int32.add_zero]
            split
            · exact e1
            · split
              · exact e1
              · exact e0
        · have e : (if nI k = 5 ∧ f 2 = 2 then (1 : Int32) else 0) = 0 := if_neg (fun c => c2 c.2)
          rw [e, Int32.add_zero]
          simp only [if_neg c2]
          split
          · rfl
          · split
            · rfl
            · rfl
set_option maxHeartbeats 4000000 in
set_option maxRecDepth 100000 in
theorem i_sub {a b x : Int32} (h : b = a + x) : x = b - a := by rw [h, Int32.add_comm, Int32.add_sub_cancel]
set_option maxHeartbeats 4000000 in
set_option maxRecDepth 100000 in
theorem ch_cc (N : fl_M) (W : Nat → Nat → Int32) {t : Nat} (ht : t < 16) : (g_MD_craftClocks N (nI t)).1 0 4 + cl ((V N W).rv t) = N.1 0 4 + cl (g_CR_stepClocks ((V N W).rv t) ((V N W).rw t)).1 := by
  have e2 : (V N W).rv t 2 = N.1 25 t := rfl
  have e9 : (V N W).rv t 9 = N.1 35 t := rfl
  have e10 : (V N W).rv t 10 = N.1 34 t := rfl
  have e11 : (V N W).rv t 11 = N.1 33 t := rfl
  unfold g_MD_craftClocks g_CR_stepClocks
  rw [clN ht, e2]
  by_cases h1 : N.1 25 t = 1
  · simp only [if_pos h1]
    have c0 : cl ((V N W).rv t) = 0 := cl0 (by rw [e2, h1]; decide)
    rw [c0, Int32.add_zero]
    unfold g_CR_stepOpen
    simp only [e9, fi_s]
    by_cases h2 : N.1 35 t - 1 = 0
    · simp only [if_pos h2]
      exact fi_s
    · simp only [if_neg h2]
      have e5 : (g_CR_has (upd ((V N W).rv t) 9 (N.1 35 t - 1)) ((V N W).rw t) 131072 = 0) ↔ (j_ishr (N.1 27 t) 17) &&& 1 = 0 := by
        rw [bit17]
        unfold g_CR_has
        exact ifz
      by_cases h3 : (j_ishr (N.1 27 t) 17) &&& 1 = 0
      · simp only [if_pos h3, if_pos (e5.2 h3)]
        rw [cl0 (show upd ((V N W).rv t) 9 _ 2 ≠ 3 by show N.1 25 t ≠ 3; rw [h1]; decide), Int32.add_zero]
        rfl
      · have h3' := fun c => h3 (e5.1 c)
        simp only [if_neg h3, if_neg h3', e10, e11]
        by_cases h4 : N.1 34 t - 1 ≤ 0
        · simp only [if_pos h4]
          by_cases h5 : N.1 33 t = 4
          · simp only [if_pos h5]
            rw [cl0 (show (g_CR_endWith (upd (upd ((V N W).rv t) 9 (N.1 35 t - 1)) 10 (N.1 34 t - 1)) ((V N W).rw t) 3).1 2 ≠ 3 by show (2 : Int32) ≠ 3; decide), Int32.add_zero]
            rfl
          · simp only [if_neg h5]
            rw [cl0 (show (g_CR_askForParts (upd (upd (upd ((V N W).rv t) 9 (N.1 35 t - 1)) 10 (N.1 34 t - 1)) 11 (N.1 33 t + 1)) ((V N W).rw t)).1 2 ≠ 3 by show N.1 25 t ≠ 3; rw [h1]; decide), Int32.add_zero]
            rfl
        · simp only [if_neg h4]
          rw [cl0 (show upd (upd ((V N W).rv t) 9 (N.1 35 t - 1)) 10 (N.1 34 t - 1) 2 ≠ 3 by show N.1 25 t ≠ 3; rw [h1]; decide), Int32.add_zero]
          rfl
  · simp only [if_neg h1]
    by_cases h2 : N.1 25 t = 2
    · simp only [if_pos h2, fi_s]
      have c0 : cl ((V N W).rv t) = 0 := cl0 (by rw [e2, h2]; decide)
      rw [c0, Int32.add_zero]
      unfold g_CR_stepEnding
      simp only [e10, e11]
      by_cases h4 : N.1 34 t - 1 ≤ 0
      · simp only [if_pos h4]
        by_cases h5 : N.1 33 t = 4
        · simp only [if_pos h5]
          exact fi_s
        · simp only [if_neg h5]
          rw [cl0 (show (g_CR_tellFinished (upd (upd ((V N W).rv t) 10 (N.1 34 t - 1)) 11 (N.1 33 t + 1)) ((V N W).rw t)).1 2 ≠ 3 by show N.1 25 t ≠ 3; rw [h2]; decide), Int32.add_zero]
          rfl
      · simp only [if_neg h4]
        rw [cl0 (show upd ((V N W).rv t) 10 (N.1 34 t - 1) 2 ≠ 3 by show N.1 25 t ≠ 3; rw [h2]; decide), Int32.add_zero]
        rfl
    · simp only [if_neg h2]
