/-! bits of an int -/
set_option maxHeartbeats 4000000 in
set_option maxRecDepth 100000 in
theorem sh_k : ∀ k, k < 32 → (nI k &&& 31) = nI k := by decide +kernel
set_option maxHeartbeats 4000000 in
set_option maxRecDepth 100000 in
theorem i_bit {x : Int32} {k : Nat} (hk : k < 32) : (x &&& ((1 : Int32) <<< (nI k &&& 31)) = 0 ∧ x.toBitVec.getLsbD k = false) ∨ (x &&& ((1 : Int32) <<< (nI k &&& 31)) = (1 : Int32) <<< (nI k &&& 31) ∧ x.toBitVec.getLsbD k = true) := by
  have e1 : ((1 : Int32) <<< (nI k &&& 31)).toBitVec = BitVec.twoPow 32 k := by
    have : ∀ k, k < 32 → ((1 : Int32) <<< (nI k &&& 31)).toBitVec = BitVec.twoPow 32 k := by decide +kernel
    exact this k hk
  have e2 : (x &&& ((1 : Int32) <<< (nI k &&& 31))).toBitVec = if x.toBitVec.getLsbD k then BitVec.twoPow 32 k else 0#32 := by
    rw [Int32.toBitVec_and, e1, BitVec.and_twoPow]
  cases h : x.toBitVec.getLsbD k
  · refine Or.inl ⟨Int32.toBitVec_inj.1 ?_, rfl⟩
    rw [e2, h]; rfl
  · refine Or.inr ⟨Int32.toBitVec_inj.1 ?_, rfl⟩
    rw [e2, h, e1]; rfl
set_option maxHeartbeats 4000000 in
set_option maxRecDepth 100000 in
theorem ne_k : ∀ k, k < 32 → ¬ ((1 : Int32) <<< (nI k &&& 31)) = 0 := by decide +kernel
set_option maxHeartbeats 4000000 in
set_option maxRecDepth 100000 in
theorem i_bit0 {x : Int32} {k : Nat} (hk : k < 32) : (x &&& ((1 : Int32) <<< (nI k &&& 31)) = 0) ↔ x.toBitVec.getLsbD k = false := by
  rcases i_bit (x := x) hk with ⟨a, b⟩ | ⟨a, b⟩
  · exact ⟨fun _ => b, fun _ => a⟩
  · refine ⟨fun c => ?_, fun c => ?_⟩
    · rw [a] at c; exact absurd c (ne_k k hk)
    · rw [b] at c; exact absurd c (by decide)
set_option maxHeartbeats 4000000 in
set_option maxRecDepth 100000 in
theorem ishr_bit (x : Int32) {k : Nat} (hk : k < 31) : ((j_ishr x (nI k)) &&& 1 = 0) ↔ (x &&& ((1 : Int32) <<< (nI k &&& 31)) = 0) := by
  rw [i_bit0 (show k < 32 by omega)]
  have h1 := i_bit0 (x := j_ishr x (nI k)) (k := 0) (by decide)
  have e0 : ((1 : Int32) <<< (nI 0 &&& 31)) = 1 := by decide
  rw [e0] at h1
  rw [h1]
  unfold j_ishr
  rw [sh_k k (by omega)]
  have e : (x >>> nI k).toBitVec = x.toBitVec.sshiftRight k := by
    rw [Int32.toBitVec_shiftRight]
    have : ∀ k, k < 32 → ((nI k).toBitVec.smod 32).toNat = k := by decide +kernel
    show BitVec.sshiftRight' _ _ = _
    unfold BitVec.sshiftRight'
    rw [this k (by omega)]
  rw [e, BitVec.getLsbD_sshiftRight]
  simp
  omega
set_option maxHeartbeats 4000000 in
set_option maxRecDepth 100000 in
theorem i_or (a b c : Int32) : a &&& (b ||| c) = (a &&& b) ||| (a &&& c) := by
  refine Int32.toBitVec_inj.1 ?_
  rw [Int32.toBitVec_and, Int32.toBitVec_or, Int32.toBitVec_or, Int32.toBitVec_and, Int32.toBitVec_and]
  exact BitVec.and_or_distrib_left
set_option maxHeartbeats 4000000 in
set_option maxRecDepth 100000 in
theorem i_orr (a b c : Int32) : (b ||| c) &&& a = (b &&& a) ||| (c &&& a) := by
  rw [Int32.and_comm, i_or, Int32.and_comm a b, Int32.and_comm a c]
set_option maxHeartbeats 4000000 in
set_option maxRecDepth 100000 in
/-- bit k of what isn't in x -/
theorem i_not (x : Int32) {k : Nat} (hk : k < 32) : ((x ^^^ (-1)) &&& ((1 : Int32) <<< (nI k &&& 31)) = 0) ↔ ¬ (x &&& ((1 : Int32) <<< (nI k &&& 31)) = 0) := by
  rw [i_bit0 hk, i_bit0 hk, Int32.toBitVec_xor, BitVec.getLsbD_xor]
  have : ∀ k, k < 32 → (-1 : Int32).toBitVec.getLsbD k = true := by decide +kernel
  rw [this k hk]
  cases x.toBitVec.getLsbD k <;> decide
set_option maxHeartbeats 4000000 in
set_option maxRecDepth 100000 in
theorem wb_c : ∀ n, n < 17 → (262143 &&& (196608 ||| g_FL_wordsBelow (nI n)) : Int32) = 131072 ||| (g_FL_wordsBelow (nI n) ||| 65536) := by decide +kernel
set_option maxHeartbeats 4000000 in
set_option maxRecDepth 100000 in
theorem lk_eq (g : Int32) {n : Nat} (hn : n < 17) : ((g &&& 131072 = 0) → (262143 &&& (g ^^^ (-1))) &&& (196608 ||| g_FL_wordsBelow (nI n)) ≠ 0) ∧ (¬ (g &&& 131072 = 0) → (262143 &&& (g ^^^ (-1))) &&& (196608 ||| g_FL_wordsBelow (nI n)) = (g_FL_wordsBelow (nI n) ||| 65536) &&& (g ^^^ (-1))) := by
  have hb := i_not g (k := 17) (by decide)
  have e17 : ((1 : Int32) <<< (nI 17 &&& 31)) = 131072 := by decide
  rw [e17] at hb
  have h1 : (262143 &&& (g ^^^ (-1))) &&& (196608 ||| g_FL_wordsBelow (nI n)) = ((g ^^^ (-1)) &&& 131072) ||| ((g ^^^ (-1)) &&& (g_FL_wordsBelow (nI n) ||| 65536)) := by
    rw [Int32.and_comm 262143, Int32.and_assoc, wb_c n hn, i_or]
  rw [h1]
  refine ⟨fun h c => ?_, fun h => ?_⟩
  · have h2 : ¬ (g ^^^ (-1)) &&& 131072 = 0 := fun c' => (hb.1 c') h
    have h3 : (((g ^^^ (-1)) &&& 131072) ||| ((g ^^^ (-1)) &&& (g_FL_wordsBelow (nI n) ||| 65536))) &&& 131072 = 0 &&& 131072 := by rw [c]
    rw [i_orr, Int32.and_assoc, Int32.and_self, Int32.zero_and] at h3
    rcases i_bit (x := g ^^^ (-1)) (k := 17) (by decide) with ⟨a, _⟩ | ⟨a, _⟩
    · rw [e17] at a; exact h2 a
    · rw [e17] at a
      rw [a, Int32.and_assoc] at h3
      have h4 := congrArg (fun z => 131072 &&& z) h3
      rw [i_or, Int32.and_self, Int32.and_zero] at h4
      have h5 : ∀ a b : Int32, a ||| b = 0 → a = 0 := fun a b h => by
        have := congrArg (fun z => a &&& z) h
        rw [i_or, Int32.and_self, Int32.and_zero] at this
        have h6 : a ||| (a &&& b) = a := by
          refine Int32.toBitVec_inj.1 ?_
          rw [Int32.toBitVec_or, Int32.toBitVec_and]
          ext i hi
          simp only [BitVec.getElem_or, BitVec.getElem_and]
          cases a.toBitVec[i] <;> simp
        rw [h6] at this
        exact this
      exact absurd (h5 _ _ h4) (by decide)
  · rw [hb.2 h, Int32.zero_or, Int32.and_comm]
