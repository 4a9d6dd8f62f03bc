/-! the class's answer, by what it takes for the error -/
theorem cmpE {x y : Int64} : (lg_cmp x y = 0) ↔ x = y := by
  unfold lg_cmp
  constructor
  · intro h
    by_cases a : x = y
    · exact a
    · exfalso
      revert h
      rw [if_neg a]
      split
      · decide
      · decide
  · intro h
    subst h
    rw [if_neg (fun c : x > x => Int64.lt_irrefl c), if_pos rfl]
def cE (s : Int32) : Int64 := cE4 (g_DC_valueAt 1 s) (g_DC_valueAt 2 s) (g_DC_valueAt 3 s) (g_DC_valueAt 4 s)
theorem dc_info (x : Int64) : g_DC_infoOf x = if g_DC_syndromeOf x = 0 then j_lshr (x &&& 1152921504606846975) 16 else (if cE (g_DC_syndromeOf x) = -1 then -1 else j_lshr ((x ^^^ cE (g_DC_syndromeOf x)) &&& 1152921504606846975) 16) := by
  unfold g_DC_infoOf cE cE4
  generalize g_DC_syndromeOf x = s
  by_cases h0 : s = 0
  · rw [if_pos h0, if_pos h0, di_eq]
  · rw [if_neg h0, if_neg h0]
    generalize g_DC_valueAt 1 s = s1
    generalize g_DC_valueAt 2 s = s2
    generalize g_DC_valueAt 3 s = s3
    generalize g_DC_valueAt 4 s = s4
    generalize (g_DC_times s1 s3 ^^^ g_DC_times s2 s2) = d
    by_cases h1 : d = 0
    · rw [if_pos h1, if_pos h1]
      generalize g_DC_oneError s1 s2 s4 = e
      by_cases h2 : e = -1
      · rw [if_pos (cmpE.2 h2), if_pos h2]
      · rw [if_neg (fun c => h2 (cmpE.1 c)), if_neg h2, di_eq]
    · rw [if_neg h1, if_neg h1]
      generalize g_DC_twoErrors s1 s2 s3 s4 d = e
      by_cases h2 : e = -1
      · rw [if_pos (cmpE.2 h2), if_pos h2]
      · rw [if_neg (fun c => h2 (cmpE.1 c)), if_neg h2, di_eq]
theorem cE_one {p v : Nat} (hp : p < 15) (hv : v < 15) : cE (g_DC_syndromeOf (pat p (v + 1))) = pat p (v + 1) := by
  have h1 := val_pat 0 (by decide) p hp v hv
  have h2 := val_pat 1 (by decide) p hp v hv
  have h3 := val_pat 2 (by decide) p hp v hv
  have h4 := val_pat 3 (by decide) p hp v hv
  have e := one_all p hp v hv
  rw [← h1, ← h2, ← h3, ← h4] at e
  exact e
