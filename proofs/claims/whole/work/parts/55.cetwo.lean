/-! two errors: what the class takes for the error -/
theorem sg_ms : ∀ j, j < 4 → ∀ p, p < 15 → ∀ v, v < 15 → sg (j + 1) p (v + 1) = nI (ms (j + 1) p (v + 1)) := by decide +kernel
theorem ea_pat : ∀ p, p < 15 → ∀ v, v < 15 → g_DC_errorAt (nI (mp p)) (nI (v + 1)) = pat p (v + 1) := by decide +kernel
theorem ms_lt (j p v : Nat) : ms j p v < 16 := mt_lt _ _
theorem cE4_m {a b c d : Nat} (ha : a < 16) (hb : b < 16) (hc : c < 16) (hd : d < 16) : cE4 (nI a) (nI b) (nI c) (nI d) = if mt a c ^^^ mt b b = 0 then g_DC_oneError (nI a) (nI b) (nI d) else mE (mL a b 15 0 (mo (mt a d ^^^ mt b c) (mt a c ^^^ mt b b)) (mo (mt b d ^^^ mt c c) (mt a c ^^^ mt b b))) := by
  unfold cE4
  rw [mt_eq a ha c hc, mt_eq b hb b hb, mx_eq _ (mt_lt _ _) _ (mt_lt _ _)]
  have hl := mx_lt _ (mt_lt a c) _ (mt_lt b b)
  by_cases h : mt a c ^^^ mt b b = 0
  · rw [if_pos h, if_pos (by rw [h]; rfl)]
  · have hn : ¬ nI (mt a c ^^^ mt b b) = 0 := fun c' => h (nI_inj16 _ hl 0 (by decide) (c'.trans nI_0.symm))
    rw [if_neg h, if_neg hn]
    unfold g_DC_twoErrors
    rw [mt_eq a ha d hd, mt_eq b hb c hc, mt_eq b hb d hd, mt_eq c hc c hc, mx_eq _ (mt_lt _ _) _ (mt_lt _ _), mx_eq _ (mt_lt _ _) _ (mt_lt _ _), mo_eq _ (mx_lt _ (mt_lt _ _) _ (mt_lt _ _)) _ hl, mo_eq _ (mx_lt _ (mt_lt _ _) _ (mt_lt _ _)) _ hl]
    exact mL_eq ha hb (mo_lt _ _) (mo_lt _ _) 15 0 rfl
theorem cE_two {p q v w : Nat} (hp : p < 15) (hpq : p < q) (hq : q < 15) (hv : v < 15) (hw : w < 15) : cE (g_DC_syndromeOf (pat p (v + 1) ^^^ pat q (w + 1))) = pat p (v + 1) ^^^ pat q (w + 1) := by
  have h := mtwo_all p hp q hpq hq v hv w hw
  unfold mtwo at h
  have X := fun j (hj : j < 4) => show g_DC_valueAt (nI (j + 1)) (g_DC_syndromeOf (pat p (v + 1) ^^^ pat q (w + 1))) = nI (ms (j + 1) p (v + 1) ^^^ ms (j + 1) q (w + 1)) by
    rw [x_ds, x_val, val_pat j hj p hp v hv, val_pat j hj q hq w hw, sg_ms j hj p hp v hv, sg_ms j hj q hq w hw, mx_eq _ (ms_lt _ _ _) _ (ms_lt _ _ _)]
  have L := fun j => mx_lt _ (ms_lt j p (v + 1)) _ (ms_lt j q (w + 1))
  have e1 := X 0 (by decide)
  have e2 := X 1 (by decide)
  have e3 := X 2 (by decide)
  have e4 := X 3 (by decide)
  unfold cE
  have k1 : (1 : Int32) = nI (0 + 1) := rfl
  have k2 : (2 : Int32) = nI (1 + 1) := rfl
  have k3 : (3 : Int32) = nI (2 + 1) := rfl
  have k4 : (4 : Int32) = nI (3 + 1) := rfl
  rw [k1, k2, k3, k4, e1, e2, e3, e4, cE4_m (L 1) (L 2) (L 3) (L 4)]
  dsimp only at h
  rw [Bool.and_eq_true] at h
  obtain ⟨h1, h2⟩ := h
  have h2 := of_decide_eq_true h2
  have h1 : ¬ (mt (ms 1 p (v + 1) ^^^ ms 1 q (w + 1)) (ms 3 p (v + 1) ^^^ ms 3 q (w + 1)) ^^^ mt (ms 2 p (v + 1) ^^^ ms 2 q (w + 1)) (ms 2 p (v + 1) ^^^ ms 2 q (w + 1))) = 0 := by
    intro c
    rw [c] at h1
    exact absurd h1 (by decide)
  rw [if_neg h1, h2]
  show g_DC_errorAt (nI (mp p)) (nI (v + 1)) ^^^ g_DC_errorAt (nI (mp q)) (nI (w + 1)) = _
  rw [ea_pat p hp v hv, ea_pat q hq w hw]
