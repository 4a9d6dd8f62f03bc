/-! the values of a syndrome: additive; those of a single error; the reference's effect -/
theorem tb1_q : ∀ j, j < 15 → tb1 j &&& 15 = tb1 j := by decide +kernel
theorem q4_tb1 (j : Nat) : q4 (tb1 j) := by
  rcases Nat.lt_or_ge j 15 with h | h
  · rw [← tb1_q j h]; exact q4_and _
  · refine ⟨0, by decide, ?_⟩
    unfold tb1
    rw [List.getD_eq_getElem?_getD, List.getElem?_eq_none (by exact h)]
    rfl
theorem q4_fb (x : Int64) (n : Int32) : q4 (g_FL_fourBitsAt x n) := q4_and _
theorem x_va (x1 x y : Int32) : ∀ k i a b, g_DC_valueAt_L4 x1 (x ^^^ y) k i (a ^^^ b) = g_DC_valueAt_L4 x1 x k i a ^^^ g_DC_valueAt_L4 x1 y k i b := by
  intro k
  induction k with
  | zero => intro i a b; rfl
  | succ k ih =>
    intro i a b
    show g_DC_valueAt_L4 x1 (x ^^^ y) k (i + 1) _ = g_DC_valueAt_L4 x1 x k (i + 1) _ ^^^ g_DC_valueAt_L4 x1 y k (i + 1) _
    rw [← ih]
    congr 1
    rw [Int32.toInt64_xor, x_fb, t_dist (q4_fb _ _) (q4_fb _ _) (q4_tb1 _), i_mid]
theorem x_val (j x y : Int32) : g_DC_valueAt j (x ^^^ y) = g_DC_valueAt j x ^^^ g_DC_valueAt j y := x_va j x y 4 0 0 0
theorem val_pat : ∀ j, j < 4 → ∀ p, p < 15 → ∀ v, v < 15 → g_DC_valueAt (nI (j + 1)) (g_DC_syndromeOf (pat p (v + 1))) = sg (j + 1) p (v + 1) := by decide +kernel
theorem eff_pat : ∀ p, p < 15 → ∀ v, v < 15 → g_MD_effect p (nI (v + 1)) (nI p) = g_MD_downRest (pat p (v + 1)) := by decide +kernel
theorem pat_lt : ∀ p, p < 15 → ∀ v, v < 15 → lNt (pat p (v + 1)) < 2 ^ 60 := by decide +kernel
