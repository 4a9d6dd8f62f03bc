/-! the down code, as far as it is linear -/
theorem ibit01 (x : Int32) : x &&& 16 = 0 ∨ x &&& 16 = 16 := by
  have h : (x &&& 16).toBitVec.toNat = x.toBitVec.toNat &&& 16 := by
    rw [Int32.toBitVec_and, BitVec.toNat_and]; rfl
  have h2 : x.toBitVec.toNat &&& 16 = 0 ∨ x.toBitVec.toNat &&& 16 = 16 := by
    generalize x.toBitVec.toNat = n
    have e : (16 : Nat) = 2 ^ 4 := rfl
    cases h4 : n.testBit 4
    · refine Or.inl (Nat.eq_of_testBit_eq (fun i => ?_))
      rw [e, Nat.testBit_and, Nat.testBit_two_pow, Nat.zero_testBit]
      by_cases hi : 4 = i
      · rw [← hi, h4]; rfl
      · simp [hi]
    · refine Or.inr (Nat.eq_of_testBit_eq (fun i => ?_))
      rw [e, Nat.testBit_and, Nat.testBit_two_pow]
      by_cases hi : 4 = i
      · rw [← hi, h4]; rfl
      · simp [hi]
  rcases h2 with h2 | h2
  · exact Or.inl (Int32.toBitVec_inj.1 (BitVec.eq_of_toNat_eq (by rw [h, h2]; rfl)))
  · exact Or.inr (Int32.toBitVec_inj.1 (BitVec.eq_of_toNat_eq (by rw [h, h2]; rfl)))
def dsr (p : Int32) : Int32 := if (p &&& 16) = 0 then p else p ^^^ 19
theorem x_dsr (a b : Int32) : dsr (a ^^^ b) = dsr a ^^^ dsr b := by
  unfold dsr
  rw [x_iand]
  rcases ibit01 a with h1 | h1 <;> rcases ibit01 b with h2 | h2 <;> rw [h1, h2]
  · rw [if_pos (by decide), if_pos (by decide), if_pos (by decide)]
  · rw [if_neg (by decide), if_pos (by decide), if_neg (by decide), Int32.xor_assoc]
  · rw [if_neg (by decide), if_neg (by decide), if_pos (by decide), Int32.xor_assoc, Int32.xor_assoc, Int32.xor_comm b]
  · rw [if_pos (by decide), if_neg (by decide), if_neg (by decide), i_mid, Int32.xor_self, Int32.xor_zero]
theorem tm_s (x1 x2 : Int32) (k : Nat) (pv : Int32) : g_MD_times_L4 x1 x2 (k + 1) pv = g_MD_times_L4 x1 x2 k (if ((j_ishr x2 (j_m1 (k + 1))) &&& 1) = 0 then dsr (pv <<< (1 &&& 31)) else dsr (pv <<< (1 &&& 31)) ^^^ x1) := by
  unfold dsr
  show (if _ then _ else _) = _
  by_cases a : ((pv <<< (1 &&& 31)) &&& 16) = 0 <;> by_cases b : ((j_ishr x2 (j_m1 (k + 1))) &&& 1) = 0
  · rw [if_pos a, if_pos b, if_pos b, if_pos a]
  · rw [if_pos a, if_neg b, if_neg b, if_pos a]
  · rw [if_neg a, if_pos b, if_pos b, if_neg a]
  · rw [if_neg a, if_neg b, if_neg b, if_neg a]
theorem x_tmL (x2 : Int32) (x y : Int32) : ∀ k a b, g_MD_times_L4 (x ^^^ y) x2 k (a ^^^ b) = g_MD_times_L4 x x2 k a ^^^ g_MD_times_L4 y x2 k b := by
  intro k
  induction k with
  | zero => intro a b; rfl
  | succ k ih =>
    intro a b
    rw [tm_s, tm_s, tm_s, ← ih]
    congr 1
    rw [Int32.shiftLeft_xor, x_dsr]
    split
    · rfl
    · rw [i_mid]
theorem x_tm (x y z : Int32) : g_MD_times (x ^^^ y) z = g_MD_times x z ^^^ g_MD_times y z := x_tmL z x y 4 0 0
theorem x_e65 (M : fl_M) (x y : Int64) (k42 : Nat) : ∀ k i a b, g_MD_encode_L65 M (x ^^^ y) k42 k i (a ^^^ b) = g_MD_encode_L65 M x k42 k i a ^^^ g_MD_encode_L65 M y k42 k i b := by
  intro k
  induction k with
  | zero => intro i a b; rfl
  | succ k ih =>
    intro i a b
    show g_MD_encode_L65 M (x ^^^ y) k42 k (i + 1) _ = g_MD_encode_L65 M x k42 k (i + 1) _ ^^^ g_MD_encode_L65 M y k42 k (i + 1) _
    rw [← ih]
    congr 1
    rw [x_lshr, x_land, Int64.toInt32_xor, x_tm, Int32.toInt64_xor, x_lshl, l_mid]
theorem x_e42 (M : fl_M) : ∀ k a b, g_MD_encode_L42 M k (a ^^^ b) = g_MD_encode_L42 M k a ^^^ g_MD_encode_L42 M k b := by
  intro k
  induction k with
  | zero => intro a b; rfl
  | succ k ih =>
    intro a b
    show g_MD_encode_L42 M k _ = g_MD_encode_L42 M k _ ^^^ g_MD_encode_L42 M k _
    rw [← ih, x_e65]
def Mg : fl_M := (fun _ _ => 0, fun _ _ => 121991)
theorem prod_eq : g_MD_product = 121991 := by decide +kernel
theorem e65_M {M N : fl_M} (h : M.2 0 2 = N.2 0 2) (x : Int64) (k42 : Nat) : ∀ k i a, g_MD_encode_L65 M x k42 k i a = g_MD_encode_L65 N x k42 k i a := by
  intro k
  induction k with
  | zero => intro i a; rfl
  | succ k ih =>
    intro i a
    show g_MD_encode_L65 M x k42 k (i + 1) _ = g_MD_encode_L65 N x k42 k (i + 1) _
    rw [h, ih]
theorem e42_M {M N : fl_M} (h : M.2 0 2 = N.2 0 2) : ∀ k a, g_MD_encode_L42 M k a = g_MD_encode_L42 N k a := by
  intro k
  induction k with
  | zero => intro a; rfl
  | succ k ih =>
    intro a
    show g_MD_encode_L42 M k _ = g_MD_encode_L42 N k _
    rw [e65_M h, ih]
theorem m44_lt (x : Int64) : lNt (x &&& 17592186044415) < 2 ^ 44 := by
  unfold lNt
  rw [Int64.toBitVec_and, BitVec.toNat_and]
  exact Nat.lt_of_le_of_lt Nat.and_le_right (by decide)
theorem de_bits : ∀ i, i < 44 → g_MD_encode_L42 Mg 11 (j_lshl (bt i) 16) = (g_DV_rest tb3 11 (bt i) 44 16).toInt64 := by decide +kernel
theorem dm_bits : ∀ i, i < 44 → (g_DV_rest tb3 11 (bt i) 44 16).toInt64 &&& 65535 = (g_DV_rest tb3 11 (bt i) 44 16).toInt64 := by decide +kernel
theorem dz_bits : ∀ i, i < 44 → j_lshl (bt i) 16 &&& 65535 = (bt i &&& 0) := by decide +kernel
theorem dc_block {M : fl_M} (hM : M.2 0 2 = 121991) (x : Int64) : g_DC_blockOf x = g_MD_encode M 0 x := by
  have h1 := lin_eqL (f := fun y => g_MD_encode_L42 Mg 11 (j_lshl y 16)) (g := fun y => (g_DV_rest tb3 11 y 44 16).toInt64) (fun a b => by show g_MD_encode_L42 _ _ _ = _; rw [x_lshl, x_e42]) (fun a b => by show Int32.toInt64 _ = _; rw [x_rest lin3, Int32.toInt64_xor]) 44 (by decide) de_bits _ (m44_lt x)
  have h2 := lin_eqL (f := fun y => (g_DV_rest tb3 11 y 44 16).toInt64 &&& 65535) (g := fun y => (g_DV_rest tb3 11 y 44 16).toInt64) (fun a b => by show Int32.toInt64 _ &&& _ = _; rw [x_rest lin3, Int32.toInt64_xor, x_land]) (fun a b => by show Int32.toInt64 _ = _; rw [x_rest lin3, Int32.toInt64_xor]) 44 (by decide) dm_bits _ (m44_lt x)
  have h3 := lin_eqL (f := fun y => j_lshl y 16 &&& 65535) (g := fun y => y &&& 0) (fun a b => by show j_lshl _ _ &&& _ = _; rw [x_lshl, x_land]) (fun a b => by show _ &&& _ = _; rw [x_land]) 44 (by decide) dz_bits _ (m44_lt x)
  rw [Int64.and_zero] at h3
  unfold g_DC_blockOf g_MD_encode
  rw [if_pos rfl, e42_M (N := Mg) hM, h1]
  exact or_xor (m := 65535) h3 h2
