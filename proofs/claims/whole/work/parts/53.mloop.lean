/-! the class's search for two errors, over Nat -/
def mP : Nat := 711541965164086305
def mp (i : Nat) : Nat := (mP >>> (4 * i)) % 16
def mL (a1 a2 : Nat) : Nat → Nat → Nat → Nat → Option (Nat × Nat × Nat × Nat)
  | 0, _, _, _ => none
  | k + 1, i, su, pr => if (mp i ^^^ su) = 0 then mL a1 a2 k (i + 1) su pr else (if (mp i ^^^ su) = mp i then mL a1 a2 k (i + 1) su pr else (if mt (mp i) (mp i ^^^ su) = pr then some (mp i, mo (mt a1 (mp i ^^^ su) ^^^ a2) (mt (mp i) su), mp i ^^^ su, mo (a1 ^^^ mt (mo (mt a1 (mp i ^^^ su) ^^^ a2) (mt (mp i) su)) (mp i)) (mp i ^^^ su)) else mL a1 a2 k (i + 1) su pr))
theorem tb1_mp : ∀ i, i < 15 → tb1 i = nI (mp i) ∧ mp i < 16 := by decide +kernel
theorem nI_inj16 : ∀ a, a < 16 → ∀ b, b < 16 → nI a = nI b → a = b := by decide +kernel
def mE : Option (Nat × Nat × Nat × Nat) → Int64
  | none => -1
  | some (x, y, z, w) => g_DC_errorAt (nI x) (nI y) ^^^ g_DC_errorAt (nI z) (nI w)
theorem mL_eq {a1 a2 : Nat} (h1 : a1 < 16) (h2 : a2 < 16) {su pr : Nat} (hs : su < 16) (hr : pr < 16) : ∀ k i, i + k = 15 → g_DC_twoErrors_L39 (nI a1) (nI a2) k i (nI su) (nI pr) = mE (mL a1 a2 k i su pr) := by
  intro k
  induction k with
  | zero => intro i _; rfl
  | succ k ih =>
    intro i hk
    have hi := tb1_mp i (by omega)
    have hx := mx_lt _ hi.2 _ hs
    have ec : (nI i).toNatClampNeg = i := nI_clamp (by omega)
    have e0 : (nI (mp i ^^^ su) = 0) ↔ (mp i ^^^ su) = 0 := ⟨fun h => nI_inj16 _ hx 0 (by decide) h, fun h => by rw [h]; rfl⟩
    have e1 : (nI (mp i ^^^ su) = nI (mp i)) ↔ (mp i ^^^ su) = mp i := ⟨fun h => nI_inj16 _ hx _ hi.2 h, fun h => by rw [h]⟩
    have e2 : (nI (mt (mp i) (mp i ^^^ su)) = nI pr) ↔ mt (mp i) (mp i ^^^ su) = pr := ⟨fun h => nI_inj16 _ (mt_lt _ _) _ hr h, fun h => by rw [h]⟩
    unfold g_DC_twoErrors_L39 mL
    rw [ec, hi.1, mx_eq _ hi.2 _ hs, mt_eq _ hi.2 _ hx, mt_eq _ h1 _ hx, mt_eq _ hi.2 _ hs, mx_eq _ (mt_lt _ _) _ h2, mo_eq _ (mx_lt _ (mt_lt _ _) _ h2) _ (mt_lt _ _), mt_eq _ (mo_lt _ _) _ hi.2, mx_eq _ h1 _ (mt_lt _ _), mo_eq _ (mx_lt _ h1 _ (mt_lt _ _)) _ hx, ih (i + 1) (by omega)]
    by_cases c0 : (mp i ^^^ su) = 0
    · rw [if_pos (e0.2 c0), if_pos c0]
    · rw [if_neg (fun c => c0 (e0.1 c)), if_neg c0]
      by_cases c1 : (mp i ^^^ su) = mp i
      · rw [if_pos (e1.2 c1), if_pos c1]
      · rw [if_neg (fun c => c1 (e1.1 c)), if_neg c1]
        by_cases c2 : mt (mp i) (mp i ^^^ su) = pr
        · rw [if_pos (e2.2 c2), if_pos c2]; rfl
        · rw [if_neg (fun c => c2 (e2.1 c)), if_neg c2]
