/-! what every record of the class keeps: its name in 0 .. 3, its length in 0 .. 16 -/
def RI (f : Nat → Int32) : Prop := vp_in (f 6) 4 ∧ nn (f 5) ∧ (f 5).toNatClampNeg ≤ 16
theorem ri_u {f : Nat → Int32} {k : Nat} {v : Int32} (h5 : k ≠ 5) (h6 : k ≠ 6) (h : RI f) : RI (upd f k v) := by
  unfold RI
  rw [pk_un (Ne.symm h6), pk_un (Ne.symm h5)]
  exact h
theorem ri_m {f w : Nat → Int32} {p x : Int32} (hp : ¬ p < 0) (h : RI f) : RI (g_CR_takeMetadata f w p x).2.1 := by
  unfold g_CR_takeMetadata
  split
  · by_cases a : 16 < p
    · rw [if_pos a]; exact h
    · rw [if_neg a]
      by_cases b : g_FL_isBelow x 4 = 0
      · rw [if_pos b]; exact h
      · rw [if_neg b]
        refine ri_u (by decide) (by decide) ?_
        unfold RI
        rw [pk_us, pk_un (by decide), pk_us]
        exact ⟨below_in4 b, nn_of hp, p_le16 hp a⟩
  · exact h
theorem ri_d {f w : Nat → Int32} {p x : Int32} (h : RI f) : RI (g_CR_takeData f w p x).2.1 := by
  unfold g_CR_takeData
  split
  · exact h
  · split
    · exact ri_u (by decide) (by decide) (ri_u (by decide) (by decide) h)
    · exact h
theorem ri_e {f w : Nat → Int32} {p x : Int32} (h : RI f) : RI (g_CR_takeEof f w p x).2.1 := by
  unfold g_CR_takeEof
  split
  · split
    · exact ri_u (by decide) (by decide) (ri_u (by decide) (by decide) (ri_u (by decide) (by decide) h))
    · exact h
  · exact h
theorem ri_end {f w : Nat → Int32} {c : Int32} (h : RI f) : RI (g_CR_endWith f w c).1 :=
  ri_u (by decide) (by decide) (ri_u (by decide) (by decide) (ri_u (by decide) (by decide) (ri_u (by decide) (by decide) (ri_u (by decide) (by decide) (ri_u (by decide) (by decide) h)))))
theorem ri_ask {f w : Nat → Int32} (h : RI f) : RI (g_CR_askForParts f w).1 := ri_u (by decide) (by decide) (ri_u (by decide) (by decide) h)
theorem ri_tell {f w : Nat → Int32} (h : RI f) : RI (g_CR_tellFinished f w).1 := ri_u (by decide) (by decide) (ri_u (by decide) (by decide) h)
theorem ri_close {f w : Nat → Int32} (h : RI f) : RI (g_CR_becomeClosed f w).1 := ri_u (by decide) (by decide) (ri_u (by decide) (by decide) (ri_u (by decide) (by decide) h))
theorem ri_if {c : Prop} [Decidable c] {a b : Int32 × (Nat → Int32) × (Nat → Int32)} (ha : RI a.2.1) (hb : RI b.2.1) : RI (if c then a else b).2.1 := by
  split
  · exact ha
  · exact hb
theorem ri_hop {f w : Nat → Int32} {k p x : Int32} (hp : ¬ p < 0) (h : RI f) : RI (g_CR_hearOpen f w k p x).2.1 := by
  have h0 : RI (upd f 9 (12 * f 0)) := ri_u (by decide) (by decide) h
  have hm := ri_m (w := w) (x := x) hp h0
  have hd := ri_d (w := w) (p := p) (x := x) h0
  have he := ri_e (w := w) (p := p) (x := x) h0
  unfold g_CR_hearOpen
  generalize g_CR_takeMetadata (upd f 9 (12 * f 0)) w p x = A at hm ⊢
  generalize g_CR_takeData (upd f 9 (12 * f 0)) w p x = B at hd ⊢
  generalize g_CR_takeEof (upd f 9 (12 * f 0)) w p x = C at he ⊢
  refine ri_if (ri_end h0) (ri_if ?_ (ri_if ?_ (ri_if ?_ h0)))
  · exact ri_if hm (ri_if (ri_if (ri_if (ri_end hm) (ri_end hm)) (ri_end hm)) hm)
  · exact ri_if hd (ri_if (ri_if (ri_if (ri_end hd) (ri_end hd)) (ri_end hd)) hd)
  · exact ri_if he (ri_if (ri_if (ri_if (ri_end he) (ri_end he)) (ri_end he)) (ri_ask (ri_u (by decide) (by decide) he)))
theorem ri_hear {f w : Nat → Int32} {k p x : Int32} (hp : ¬ p < 0) (h : RI f) : RI (g_CR_hear f w k p x).2.1 := by
  have h1 : RI (upd f 2 1) := ri_u (by decide) (by decide) h
  have h2 : RI (upd f 12 1) := ri_u (by decide) (by decide) h
  have h3 : RI (upd (upd f 2 1) 12 1) := ri_u (by decide) (by decide) h1
  have a0 := ri_hop (w := w) (k := k) (x := x) hp h
  have a1 := ri_hop (w := w) (k := k) (x := x) hp h1
  have a2 := ri_hop (w := w) (k := k) (x := x) hp h2
  have a3 := ri_hop (w := w) (k := k) (x := x) hp h3
  have a4 := ri_close (w := w) h
  unfold g_CR_hear
  generalize g_CR_hearOpen f w k p x = A0 at a0 ⊢
  generalize g_CR_hearOpen (upd f 2 1) w k p x = A1 at a1 ⊢
  generalize g_CR_hearOpen (upd f 12 1) w k p x = A2 at a2 ⊢
  generalize g_CR_hearOpen (upd (upd f 2 1) 12 1) w k p x = A3 at a3 ⊢
  generalize g_CR_becomeClosed f w = A4 at a4 ⊢
  exact ri_if h (ri_if (ri_if a3 (ri_if a3 a1)) (ri_if (ri_if a2 (ri_if h2 h2)) (ri_if (ri_if a2 (ri_if h2 h2)) (ri_if a0 (ri_if (ri_if a4 h) h)))))
theorem ri_step {f w : Nat → Int32} (h : RI f) : RI (g_CR_stepClocks f w).1 := by
  have u9 : RI (upd f 9 (f 9 - 1)) := ri_u (by decide) (by decide) h
  have u10 : RI (upd (upd f 9 (f 9 - 1)) 10 (f 10 - 1)) := ri_u (by decide) (by decide) u9
  have v10 : RI (upd f 10 (f 10 - 1)) := ri_u (by decide) (by decide) h
  have a1 := ri_close (w := w) (ri_u (k := 3) (v := 4) (by decide) (by decide) u9)
  have a2 := ri_end (w := w) (c := 3) u10
  have a3 := ri_ask (w := w) (ri_u (k := 11) (v := f 11 + 1) (by decide) (by decide) u10)
  have a4 := ri_close (w := w) v10
  have a5 := ri_tell (w := w) (ri_u (k := 11) (v := f 11 + 1) (by decide) (by decide) v10)
  unfold g_CR_stepClocks g_CR_stepOpen g_CR_stepEnding
  repeat (first | exact h | exact a1 | exact u9 | exact a2 | exact a3 | exact u10 | exact a4 | exact a5 | exact v10 | split)
theorem ri_pay {f w : Nat → Int32} (h : RI f) : RI (g_CR_payOne f w).2.1 := by
  unfold g_CR_payOne
  split
  · split
    · exact ri_u (by decide) (by decide) h
    · exact ri_u (by decide) (by decide) h
  · exact ri_u (by decide) (by decide) h
theorem kp_of {M : fl_M} (h : ∀ q, is_CR q → RI (M.1 q)) : KP M := fun q hq k p x hp _ => ri_hear hp (h q hq)
