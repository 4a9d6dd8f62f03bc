/-! the reference's search -/
theorem sec_e : ∀ q, q < 15 → ∀ v, v < 15 → g_MD_times (g_MD_effect q (nI (v + 1)) (nI q) &&& 15) (g_MD_power (15 - q) (15 - nI q)) = nI (v + 1) := by decide +kernel
theorem q4_pw : ∀ q, q < 15 → g_MD_power (15 - q) (15 - nI q) &&& 15 = g_MD_power (15 - q) (15 - nI q) := by decide +kernel
theorem q4_mt {x y : Int32} (hx : q4 x) (hy : q4 y) : q4 (g_MD_times x y) := by
  obtain ⟨a, ha, rfl⟩ := hx
  obtain ⟨b, hb, rfl⟩ := hy
  rw [← gf_md a ha b hb]
  exact q4_t ⟨a, ha, rfl⟩ ⟨b, hb, rfl⟩
theorem sec_r : ∀ q, q < 15 → ∀ v, v < 15 → ¬ (16 * nI q + nI (v + 1) < 0) ∧ (16 * nI q + nI (v + 1)) &&& 15 = nI (v + 1) ∧ j_ishr (16 * nI q + nI (v + 1)) 4 = nI q := by decide +kernel
theorem sec_L (l : Int32) : ∀ k i, i + k = 15 → (∃ q v, i ≤ q ∧ q < 15 ∧ v < 15 ∧ g_MD_effect q (nI (v + 1)) (nI q) = l ∧ g_MD_second_L4 l k i = 16 * nI q + nI (v + 1)) ∨ (g_MD_second_L4 l k i = -1 ∧ ∀ q v, i ≤ q → q < 15 → v < 15 → g_MD_effect q (nI (v + 1)) (nI q) ≠ l) := by
  intro k
  induction k with
  | zero => intro i hi; exact Or.inr ⟨rfl, fun q v h1 h2 => by omega⟩
  | succ k ih =>
    intro i hi
    have hi' : i < 15 := by omega
    obtain ⟨e, he, he'⟩ : q4 (g_MD_times (l &&& 15) (g_MD_power (15 - i) (15 - nI i))) := q4_mt (q4_and _) (by rw [← q4_pw i hi']; exact q4_and _)
    have none_i : (∀ v, v < 15 → g_MD_effect i (nI (v + 1)) (nI i) ≠ l) → g_MD_second_L4 l (k + 1) i = g_MD_second_L4 l k (i + 1) → (∃ q v, i ≤ q ∧ q < 15 ∧ v < 15 ∧ g_MD_effect q (nI (v + 1)) (nI q) = l ∧ g_MD_second_L4 l (k + 1) i = 16 * nI q + nI (v + 1)) ∨ (g_MD_second_L4 l (k + 1) i = -1 ∧ ∀ q v, i ≤ q → q < 15 → v < 15 → g_MD_effect q (nI (v + 1)) (nI q) ≠ l) := by
      intro h0 h1
      rcases ih (i + 1) (by omega) with ⟨q, v, a, b, c, d, f⟩ | ⟨a, b⟩
      · exact Or.inl ⟨q, v, by omega, b, c, d, by rw [h1]; exact f⟩
      · refine Or.inr ⟨by rw [h1]; exact a, fun q v c d f => ?_⟩
        rcases Nat.lt_or_ge i q with g | g
        · exact b q v (by omega) d f
        · have : q = i := by omega
          subst this
          exact h0 v f
    have hs : ∀ v, v < 15 → g_MD_effect i (nI (v + 1)) (nI i) = l → nI e = nI (v + 1) := by
      intro v hv h
      rw [← he', ← h]
      exact sec_e i hi' v hv
    have hS : g_MD_second_L4 l (k + 1) i = if (g_MD_times (l &&& 15) (g_MD_power (15 - i) (15 - (nI i)))) = 0 then (g_MD_second_L4 l k (i + 1)) else (if (g_MD_effect i (g_MD_times (l &&& 15) (g_MD_power (15 - i) (15 - (nI i)))) (nI i)) = l then ((16 * (nI i)) + (g_MD_times (l &&& 15) (g_MD_power (15 - i) (15 - (nI i))))) else (g_MD_second_L4 l k (i + 1))) := rfl
    rw [he'] at hS
    by_cases e0 : nI e = 0
    · rw [if_pos e0] at hS
      refine none_i (fun v hv h => ?_) hS
      have := hs v hv h
      rw [e0] at this
      exact absurd (nI_inj16 0 (by decide) (v + 1) (by omega) (nI_0.trans this)) (by omega)
    · rw [if_neg e0] at hS
      obtain ⟨v, rfl⟩ : ∃ v, e = v + 1 := by
        cases e with
        | zero => exact absurd rfl e0
        | succ v => exact ⟨v, rfl⟩
      have hv : v < 15 := by omega
      by_cases e1 : g_MD_effect i (nI (v + 1)) (nI i) = l
      · rw [if_pos e1] at hS
        exact Or.inl ⟨i, v, Nat.le_refl _, hi', hv, e1, hS⟩
      · rw [if_neg e1] at hS
        refine none_i (fun u hu h => ?_) hS
        have h2 := hs u hu h
        rw [← h2] at h
        exact e1 h
theorem xor_z {a b : Int32} : a ^^^ b = 0 ↔ b = a := by
  constructor
  · intro h
    have : a ^^^ (a ^^^ b) = a ^^^ 0 := by rw [h]
    rw [← Int32.xor_assoc, Int32.xor_self, Int32.zero_xor, Int32.xor_zero] at this
    exact this
  · intro h; rw [h, Int32.xor_self]
theorem xor_l {a b c : Int32} : a ^^^ b = c ↔ a = b ^^^ c := by
  constructor
  · intro h; rw [← h, Int32.xor_comm a b, ← Int32.xor_assoc, Int32.xor_self, Int32.zero_xor]
  · intro h; rw [h, Int32.xor_comm b c, Int32.xor_assoc, Int32.xor_self, Int32.xor_zero]
/-- what a search with the first place p (and value at least i) answers -/
def Fnd (x : Int64) (r : Int64) : Prop := ∃ e, Pat e ∧ g_MD_downRest e = g_MD_downRest x ∧ r = j_lshr (x ^^^ e) 16
theorem dd_L25 (x : Int64) {p : Nat} (hp : p < 15) : ∀ k i, i + k = 16 → 1 ≤ i → (∃ r, g_MD_decodeDown_L25 x p k i = some r ∧ Fnd x r) ∨ (g_MD_decodeDown_L25 x p k i = none ∧ ∀ v, i ≤ v + 1 → v < 15 → g_MD_downRest (pat p (v + 1)) ≠ g_MD_downRest x ∧ ∀ q w, p < q → q < 15 → w < 15 → g_MD_downRest (pat p (v + 1) ^^^ pat q (w + 1)) ≠ g_MD_downRest x) := by
  intro k
  induction k with
  | zero => intro i hi h1; exact Or.inr ⟨rfl, fun v a b => by omega⟩
  | succ k ih =>
    intro i hi h1
    obtain ⟨v, rfl⟩ : ∃ v, i = v + 1 := ⟨i - 1, by omega⟩
    have hv : v < 15 := by omega
    unfold g_MD_decodeDown_L25
    rw [eff_pat p hp v hv]
    by_cases c0 : g_MD_downRest x ^^^ g_MD_downRest (pat p (v + 1)) = 0
    · rw [if_pos c0]
      exact Or.inl ⟨_, rfl, pat p (v + 1), Or.inl ⟨p, v, hp, hv, rfl⟩, xor_z.1 c0, rfl⟩
    · rw [if_neg c0]
      rcases sec_L (g_MD_downRest x ^^^ g_MD_downRest (pat p (v + 1))) (15 - (p + 1)) (p + 1) (by omega) with ⟨q, w, a, b, c, d, f⟩ | ⟨a, b⟩
      · have hs : g_MD_second p (g_MD_downRest x ^^^ g_MD_downRest (pat p (v + 1))) (nI p) = 16 * nI q + nI (w + 1) := f
        obtain ⟨r1, r2, r3⟩ := sec_r q b w c
        rw [hs, if_neg r1, r2, r3]
        rw [eff_pat q b w c] at d
        refine Or.inl ⟨_, rfl, pat p (v + 1) ^^^ pat q (w + 1), Or.inr ⟨p, q, v, w, by omega, b, hv, c, rfl⟩, ?_, ?_⟩
        · rw [x_dr, d, Int32.xor_comm (g_MD_downRest x), ← Int32.xor_assoc, Int32.xor_self, Int32.zero_xor]
        · rw [← Int64.xor_assoc]; rfl
      · have hs : g_MD_second p (g_MD_downRest x ^^^ g_MD_downRest (pat p (v + 1))) (nI p) = -1 := a
        rw [hs, if_pos (by decide)]
        rcases ih (v + 1 + 1) (by omega) (by omega) with ⟨r, h2, h3⟩ | ⟨h2, h3⟩
        · exact Or.inl ⟨r, h2, h3⟩
        · refine Or.inr ⟨h2, fun u hu hu' => ?_⟩
          rcases Nat.lt_or_ge v u with g | g
          · exact h3 u (by omega) hu'
          · have : u = v := by omega
            subst this
            refine ⟨fun h => c0 (xor_z.2 h), fun q w g1 g2 g3 h => ?_⟩
            rw [x_dr] at h
            refine b q w (by omega) g2 g3 ?_
            rw [eff_pat q g2 w g3]
            rw [Int32.xor_comm]
            exact (xor_l.1 (by rw [Int32.xor_comm]; exact h))
theorem dd_L16 (x : Int64) : ∀ k i, i + k = 15 → Fnd x (g_MD_decodeDown_L16 x k i) ∨ (g_MD_decodeDown_L16 x k i = -1 ∧ ∀ p v, i ≤ p → p < 15 → v < 15 → g_MD_downRest (pat p (v + 1)) ≠ g_MD_downRest x ∧ ∀ q w, p < q → q < 15 → w < 15 → g_MD_downRest (pat p (v + 1) ^^^ pat q (w + 1)) ≠ g_MD_downRest x) := by
  intro k
  induction k with
  | zero => intro i hi; exact Or.inr ⟨rfl, fun p v a b => by omega⟩
  | succ k ih =>
    intro i hi
    have e : g_MD_decodeDown_L16 x (k + 1) i = Option.getD (g_MD_decodeDown_L25 x i 15 1) (g_MD_decodeDown_L16 x k (i + 1)) := rfl
    rw [e]
    rcases dd_L25 x (p := i) (by omega) 15 1 rfl (Nat.le_refl _) with ⟨r, h2, h3⟩ | ⟨h2, h3⟩
    · rw [h2]; exact Or.inl h3
    · rw [h2]
      show Fnd x (g_MD_decodeDown_L16 x k (i + 1)) ∨ _
      rcases ih (i + 1) (by omega) with h | ⟨a, b⟩
      · exact Or.inl h
      · refine Or.inr ⟨a, fun p v g1 g2 g3 => ?_⟩
        rcases Nat.lt_or_ge i p with g | g
        · exact b p v (by omega) g2 g3
        · have : p = i := by omega
          subst this
          exact h3 v (by omega) g3
theorem dd_eq {x : Int64} (hx : lNt x < 2 ^ 60) : g_MD_decodeDown x = if g_DC_syndromeOf x = 0 then j_lshr x 16 else (if cE (g_DC_syndromeOf x) = -1 then -1 else j_lshr (x ^^^ cE (g_DC_syndromeOf x)) 16) := by
  unfold g_MD_decodeDown
  by_cases h0 : g_DC_syndromeOf x = 0
  · rw [if_pos h0, if_pos ((ds_0 hx).1 h0)]
  · rw [if_neg h0, if_neg (fun c => h0 ((ds_0 hx).2 c))]
    rcases dd_L16 x 15 0 rfl with ⟨e, h1, h2, h3⟩ | ⟨h1, h2⟩
    · have hs := ds_dr h1.lt hx h2
      rw [← hs, h1.cE, if_neg h1.ne]
      exact h3
    · by_cases hc : cE (g_DC_syndromeOf x) = -1
      · rw [if_pos hc]; exact h1
      · obtain ⟨e, he, hr⟩ := cE_sound hx hc
        exfalso
        rcases he with ⟨p, v, hp, hv, rfl⟩ | ⟨p, q, v, w, hpq, hq, hv, hw, rfl⟩
        · exact (h2 p v (Nat.zero_le _) hp hv).1 hr
        · exact (h2 p v (Nat.zero_le _) (by omega) hv).2 q w hpq hq hw hr
theorem cE_m {x : Int64} (hx : lNt x < 2 ^ 60) (hc : cE (g_DC_syndromeOf x) ≠ -1) : cE (g_DC_syndromeOf x) &&& 1152921504606846975 = cE (g_DC_syndromeOf x) := by
  obtain ⟨e, he, hr⟩ := cE_sound hx hc
  rw [← ds_dr he.lt hx hr, he.cE]
  exact he.m
/-- decoding down: the class answers what the reference answers -/
theorem dn_info (x : Int64) : g_DC_infoOf x = g_MD_decodeDown (x &&& 1152921504606846975) := by
  rw [dc_info, dd_eq (m60_lt x), ds_m x]
  by_cases h0 : g_DC_syndromeOf (x &&& 1152921504606846975) = 0
  · rw [if_pos h0, if_pos h0]
  · rw [if_neg h0, if_neg h0]
    by_cases hc : cE (g_DC_syndromeOf (x &&& 1152921504606846975)) = -1
    · rw [if_pos hc, if_pos hc]
    · rw [if_neg hc, if_neg hc, x_land, cE_m (m60_lt x) hc]
