/-! a pattern of one or two errors; the values of a syndrome tell the rest -/
def Pat (e : Int64) : Prop := (∃ p v : Nat, p < 15 ∧ v < 15 ∧ e = pat p (v + 1)) ∨ ∃ p q v w : Nat, p < q ∧ q < 15 ∧ v < 15 ∧ w < 15 ∧ e = pat p (v + 1) ^^^ pat q (w + 1)
theorem pat_m : ∀ p, p < 15 → ∀ v, v < 15 → pat p (v + 1) &&& 1152921504606846975 = pat p (v + 1) := by decide +kernel
theorem Pat.m {e : Int64} (h : Pat e) : e &&& 1152921504606846975 = e := by
  rcases h with ⟨p, v, hp, hv, rfl⟩ | ⟨p, q, v, w, hpq, hq, hv, hw, rfl⟩
  · exact pat_m p hp v hv
  · rw [x_land, pat_m p (by omega) v hv, pat_m q hq w hw]
theorem Pat.lt {e : Int64} (h : Pat e) : lNt e < 2 ^ 60 := by
  rw [← h.m]; exact m60_lt e
theorem Pat.ne {e : Int64} (h : Pat e) : e ≠ -1 := by
  intro c
  have := h.m
  rw [c] at this
  exact absurd this (by decide)
theorem Pat.cE {e : Int64} (h : Pat e) : cE (g_DC_syndromeOf e) = e := by
  rcases h with ⟨p, v, hp, hv, rfl⟩ | ⟨p, q, v, w, hpq, hq, hv, hw, rfl⟩
  · exact cE_one hp hv
  · exact cE_two (by omega) hpq hq hv hw
def pk4 (a b c d : Int32) : Int32 := a ^^^ ((b <<< 4) ^^^ ((c <<< 8) ^^^ (d <<< 12)))
theorem x_pk4 (a b c d a' b' c' d' : Int32) : pk4 (a ^^^ a') (b ^^^ b') (c ^^^ c') (d ^^^ d') = pk4 a b c d ^^^ pk4 a' b' c' d' := by
  unfold pk4
  rw [Int32.shiftLeft_xor, Int32.shiftLeft_xor, Int32.shiftLeft_xor, i_mid (c <<< 8), i_mid (b <<< 4), i_mid a]
theorem pk_bits : ∀ i, i < 60 → g_MD_downRest (bt i) = pk4 (g_DC_valueAt 1 (g_DC_syndromeOf (bt i))) (g_DC_valueAt 2 (g_DC_syndromeOf (bt i))) (g_DC_valueAt 3 (g_DC_syndromeOf (bt i))) (g_DC_valueAt 4 (g_DC_syndromeOf (bt i))) := by decide +kernel
theorem dr_pk {x : Int64} (h : lNt x < 2 ^ 60) : g_MD_downRest x = pk4 (g_DC_valueAt 1 (g_DC_syndromeOf x)) (g_DC_valueAt 2 (g_DC_syndromeOf x)) (g_DC_valueAt 3 (g_DC_syndromeOf x)) (g_DC_valueAt 4 (g_DC_syndromeOf x)) :=
  lin_eqI (f := g_MD_downRest) (g := fun x => pk4 (g_DC_valueAt 1 (g_DC_syndromeOf x)) (g_DC_valueAt 2 (g_DC_syndromeOf x)) (g_DC_valueAt 3 (g_DC_syndromeOf x)) (g_DC_valueAt 4 (g_DC_syndromeOf x))) x_dr (fun a b => by show pk4 _ _ _ _ = _; rw [x_ds, x_val, x_val, x_val, x_val, x_pk4]) 60 (by decide) pk_bits x h
/-- values of a syndrome have four bits -/
theorem q4_va (x1 x2 : Int32) : ∀ k i a, q4 a → q4 (g_DC_valueAt_L4 x1 x2 k i a) := by
  intro k
  induction k with
  | zero => intro i a h; exact h
  | succ k ih =>
    intro i a h
    show q4 (g_DC_valueAt_L4 x1 x2 k (i + 1) _)
    exact ih _ _ (q4_x h (q4_t (q4_fb _ _) (q4_tb1 _)))
theorem q4_val (x1 x2 : Int32) : q4 (g_DC_valueAt x1 x2) := q4_va x1 x2 4 0 0 ⟨0, by decide, rfl⟩
theorem mp_of : ∀ x, x < 16 → x ≠ 0 → ∃ p, p < 15 ∧ x = mp p := by decide +kernel
theorem ms_1 : ∀ p, p < 15 → ∀ v, v < 15 → mt (v + 1) (mp p) = ms (0 + 1) p (v + 1) ∧ mt (mt (v + 1) (mp p)) (mp p) = ms (1 + 1) p (v + 1) ∧ mt (mt (mt (v + 1) (mp p)) (mp p)) (mp p) = ms (2 + 1) p (v + 1) ∧ mt (mt (mt (mt (v + 1) (mp p)) (mp p)) (mp p)) (mp p) = ms (3 + 1) p (v + 1) := by decide +kernel
theorem val_1 {p v : Nat} (hp : p < 15) (hv : v < 15) {j : Nat} (hj : j < 4) : g_DC_valueAt (nI (j + 1)) (g_DC_syndromeOf (pat p (v + 1))) = nI (ms (j + 1) p (v + 1)) := by
  rw [val_pat j hj p hp v hv, sg_ms j hj p hp v hv]
theorem val_2 {p v q w : Nat} (hp : p < 15) (hv : v < 15) (hq : q < 15) (hw : w < 15) {j : Nat} (hj : j < 4) : g_DC_valueAt (nI (j + 1)) (g_DC_syndromeOf (pat p (v + 1) ^^^ pat q (w + 1))) = nI (ms (j + 1) p (v + 1) ^^^ ms (j + 1) q (w + 1)) := by
  rw [x_ds, x_val, val_1 hp hv hj, val_1 hq hw hj, mx_eq _ (ms_lt _ _ _) _ (ms_lt _ _ _)]
theorem dr_of {x e : Int64} (hx : lNt x < 2 ^ 60) (he : lNt e < 2 ^ 60) (h : ∀ j, j < 4 → g_DC_valueAt (nI (j + 1)) (g_DC_syndromeOf e) = g_DC_valueAt (nI (j + 1)) (g_DC_syndromeOf x)) : g_MD_downRest e = g_MD_downRest x := by
  rw [dr_pk hx, dr_pk he]
  have h1 := h 0 (by decide)
  have h2 := h 1 (by decide)
  have h3 := h 2 (by decide)
  have h4 := h 3 (by decide)
  have k1 : (1 : Int32) = nI (0 + 1) := rfl
  have k2 : (2 : Int32) = nI (1 + 1) := rfl
  have k3 : (3 : Int32) = nI (2 + 1) := rfl
  have k4 : (4 : Int32) = nI (3 + 1) := rfl
  rw [k1, k2, k3, k4, h1, h2, h3, h4]
theorem Pat.two {p q v w : Nat} (hp : p < 15) (hq : q < 15) (hpq : p ≠ q) (hv : v < 15) (hw : w < 15) : Pat (pat p (v + 1) ^^^ pat q (w + 1)) := by
  rcases Nat.lt_or_ge p q with h | h
  · exact Or.inr ⟨p, q, v, w, h, hq, hv, hw, rfl⟩
  · exact Or.inr ⟨q, p, w, v, by omega, hp, hw, hv, Int64.xor_comm _ _⟩
theorem mR_pat {x y z w a b c d : Nat} (h : mR x y z w a b c d = true) {X : Int64} (hX : lNt X < 2 ^ 60) (h1 : g_DC_valueAt (nI (0 + 1)) (g_DC_syndromeOf X) = nI a) (h2 : g_DC_valueAt (nI (1 + 1)) (g_DC_syndromeOf X) = nI b) (h3 : g_DC_valueAt (nI (2 + 1)) (g_DC_syndromeOf X) = nI c) (h4 : g_DC_valueAt (nI (3 + 1)) (g_DC_syndromeOf X) = nI d) : ∃ e, Pat e ∧ g_MD_downRest e = g_MD_downRest X := by
  unfold mR at h
  simp only [Bool.and_eq_true, Nat.blt_eq, Nat.beq_eq, Bool.not_eq_true'] at h
  obtain ⟨⟨⟨⟨⟨⟨⟨⟨⟨⟨lx, ly⟩, lz⟩, lw⟩, x0⟩, y0⟩, e1⟩, e2⟩, e3⟩, e4⟩, hz⟩ := h
  have x0 : x ≠ 0 := fun c' => by rw [c'] at x0; exact absurd x0 (by decide)
  have y0 : y ≠ 0 := fun c' => by rw [c'] at y0; exact absurd y0 (by decide)
  obtain ⟨p, hp, rfl⟩ := mp_of x lx x0
  obtain ⟨v, rfl⟩ : ∃ v, y = v + 1 := ⟨y - 1, by omega⟩
  have hv : v < 15 := by omega
  obtain ⟨m1, m2, m3, m4⟩ := ms_1 p hp v hv
  by_cases w0 : w = 0
  · subst w0
    have z0 : z = 0 := by simpa using hz
    subst z0
    have m0 : mt 0 0 = 0 := by decide +kernel
    rw [m4, m0, m0, m0, m0, Nat.xor_zero] at e4
    rw [m3, m0, m0, m0, Nat.xor_zero] at e3
    rw [m2, m0, m0, Nat.xor_zero] at e2
    rw [m1, m0, Nat.xor_zero] at e1
    refine ⟨pat p (v + 1), Or.inl ⟨p, v, hp, hv, rfl⟩, dr_of hX (Pat.lt (Or.inl ⟨p, v, hp, hv, rfl⟩)) (fun j hj => ?_)⟩
    rw [val_1 hp hv hj]
    match j, hj with
    | 0, _ => rw [h1, ← e1]
    | 1, _ => rw [h2, ← e2]
    | 2, _ => rw [h3, ← e3]
    | 3, _ => rw [h4, ← e4]
    | n + 4, h => exact absurd h (by omega)
  · have hz2 : z ≠ 0 ∧ z ≠ mp p := by
      have w0' : Nat.beq w 0 = false := by
        cases hc : Nat.beq w 0
        · rfl
        · exact absurd (Nat.eq_of_beq_eq_true hc) w0
      rw [w0'] at hz
      simp only [cond_false, Bool.and_eq_true, Bool.not_eq_true'] at hz
      refine ⟨fun c' => ?_, fun c' => ?_⟩
      · have := hz.1; rw [c'] at this; exact absurd this (by decide)
      · have := hz.2; rw [c'] at this
        rw [show Nat.beq (mp p) (mp p) = true from Nat.beq_refl _] at this
        exact absurd this (by decide)
    obtain ⟨q, hq, rfl⟩ := mp_of z lz hz2.1
    obtain ⟨u, rfl⟩ : ∃ u, w = u + 1 := ⟨w - 1, by omega⟩
    have hu : u < 15 := by omega
    obtain ⟨n1, n2, n3, n4⟩ := ms_1 q hq u hu
    have hpq : p ≠ q := fun c' => hz2.2 (by rw [c'])
    rw [m4, n4] at e4
    rw [m3, n3] at e3
    rw [m2, n2] at e2
    rw [m1, n1] at e1
    refine ⟨pat p (v + 1) ^^^ pat q (u + 1), Pat.two hp hq hpq hv hu, dr_of hX (Pat.lt (Pat.two hp hq hpq hv hu)) (fun j hj => ?_)⟩
    rw [val_2 hp hv hq hu hj]
    match j, hj with
    | 0, _ => rw [h1, ← e1]
    | 1, _ => rw [h2, ← e2]
    | 2, _ => rw [h3, ← e3]
    | 3, _ => rw [h4, ← e4]
    | n + 4, h => exact absurd h (by omega)
theorem cE_sound {X : Int64} (hX : lNt X < 2 ^ 60) (h : cE (g_DC_syndromeOf X) ≠ -1) : ∃ e, Pat e ∧ g_MD_downRest e = g_MD_downRest X := by
  obtain ⟨a, ha, h1⟩ := q4_val 1 (g_DC_syndromeOf X)
  obtain ⟨b, hb, h2⟩ := q4_val 2 (g_DC_syndromeOf X)
  obtain ⟨c, hc, h3⟩ := q4_val 3 (g_DC_syndromeOf X)
  obtain ⟨d, hd, h4⟩ := q4_val 4 (g_DC_syndromeOf X)
  have K := mK_all a ha b hb c hc d hd
  unfold cE at h
  rw [h1, h2, h3, h4, cE4_m ha hb hc hd] at h
  unfold mK mC at K
  dsimp only at K
  by_cases h0 : mt a c ^^^ mt b b = 0
  · rw [if_pos h0] at h
    rw [h0] at K
    unfold g_DC_oneError at h
    rw [mo_eq b hb a ha] at h
    by_cases r0 : mo b a = 0
    · exact absurd (if_pos (by rw [r0]; rfl)) h
    · have hn : ¬ nI (mo b a) = 0 := fun c' => r0 (nI_inj16 _ (mo_lt _ _) 0 (by decide) (c'.trans nI_0.symm))
      rw [if_neg hn, mt_eq b hb _ (mo_lt _ _), mt_eq _ (mt_lt _ _) _ (mo_lt _ _)] at h
      have b0 : Nat.beq (mo b a) 0 = false := by
        cases hc : Nat.beq (mo b a) 0
        · rfl
        · exact absurd (Nat.eq_of_beq_eq_true hc) r0
      by_cases r1 : mt (mt b (mo b a)) (mo b a) = d
      · rw [show Nat.beq 0 0 = true from rfl, cond_true, b0, r1, show Nat.beq d d = true from Nat.beq_refl _] at K
        exact mR_pat K hX h1 h2 h3 h4
      · exact absurd (if_neg (fun c' => r1 (nI_inj16 _ (mt_lt _ _) _ hd c'))) h
  · have b0 : Nat.beq (mt a c ^^^ mt b b) 0 = false := by
      cases hc : Nat.beq (mt a c ^^^ mt b b) 0
      · rfl
      · exact absurd (Nat.eq_of_beq_eq_true hc) h0
    rw [if_neg h0] at h
    rw [b0, cond_false] at K
    revert K h
    generalize mL a b 15 0 (mo (mt a d ^^^ mt b c) (mt a c ^^^ mt b b)) (mo (mt b d ^^^ mt c c) (mt a c ^^^ mt b b)) = o
    intro h K
    match o, h, K with
    | none, h, _ => exact absurd rfl h
    | some (x, y, z, w), _, K => exact mR_pat K hX h1 h2 h3 h4
