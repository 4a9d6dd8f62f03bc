/-! functions that are linear over xor: equal where they are equal on the single bits -/
def bt (i : Nat) : Int64 := Int64.ofBitVec (BitVec.ofNat 64 (2 ^ i))
def lNt (x : Int64) : Nat := x.toBitVec.toNat
theorem lNt_inj {x y : Int64} (h : lNt x = lNt y) : x = y := Int64.toBitVec_inj.1 (BitVec.eq_of_toNat_eq h)
theorem lNt_xor (x y : Int64) : lNt (x ^^^ y) = lNt x ^^^ lNt y := by
  unfold lNt
  rw [Int64.toBitVec_xor, BitVec.toNat_xor]
theorem lNt_bt {i : Nat} (h : i < 64) : lNt (bt i) = 2 ^ i := by
  show (BitVec.ofNat 64 (2 ^ i)).toNat = 2 ^ i
  rw [BitVec.toNat_ofNat]
  exact Nat.mod_eq_of_lt (Nat.pow_lt_pow_right (by decide) h)
theorem l_xx (x y : Int64) : (x ^^^ y) ^^^ y = x := by
  rw [Int64.xor_assoc, Int64.xor_self, Int64.xor_zero]
theorem i_xx (x y : Int32) : (x ^^^ y) ^^^ y = x := by
  rw [Int32.xor_assoc, Int32.xor_self, Int32.xor_zero]
theorem xor_top {x n : Nat} (h : x < 2 ^ (n + 1)) (h' : ¬ x < 2 ^ n) : x ^^^ 2 ^ n < 2 ^ n := by
  refine Nat.lt_pow_two_of_testBit _ (fun i hi => ?_)
  rw [Nat.testBit_xor, Nat.testBit_two_pow]
  by_cases e : n = i
  · subst e
    have : x.testBit n = true := by
      rw [Nat.testBit_eq_decide_div_mod_eq]
      have h1 : x / 2 ^ n = 1 := by
        refine Nat.div_eq_of_lt_le ?_ ?_
        · omega
        · rw [Nat.pow_succ] at h; omega
      rw [h1]; rfl
    rw [this]; simp
  · have : x.testBit i = false := Nat.testBit_lt_two_pow (Nat.lt_of_lt_of_le h (Nat.pow_le_pow_right (by decide) (by omega)))
    rw [this]; simp [e]
theorem lin_eq {α : Type} [XorOp α] {f g : Int64 → α} (hs : ∀ a b : α, a ^^^ a = b ^^^ b) (hf : ∀ x y, f (x ^^^ y) = f x ^^^ f y) (hg : ∀ x y, g (x ^^^ y) = g x ^^^ g y) : ∀ n, n ≤ 64 → (∀ i, i < n → f (bt i) = g (bt i)) → ∀ x, lNt x < 2 ^ n → f x = g x := by
  intro n
  induction n with
  | zero =>
    intro _ _ x hx
    have e : x = x ^^^ x := by
      rw [Int64.xor_self]
      exact lNt_inj (by rw [Nat.pow_zero] at hx; have : lNt (0 : Int64) = 0 := rfl; omega)
    rw [e, hf, hg]
    exact hs _ _
  | succ n ih =>
    intro hn hb x hx
    by_cases h : lNt x < 2 ^ n
    · exact ih (by omega) (fun i hi => hb i (by omega)) x h
    · have h1 : lNt (x ^^^ bt n) < 2 ^ n := by
        rw [lNt_xor, lNt_bt (by omega)]
        exact xor_top hx h
      have h2 := ih (by omega) (fun i hi => hb i (by omega)) _ h1
      rw [← l_xx x (bt n), hf, hg, h2, hb n (by omega)]
theorem lin_eqI {f g : Int64 → Int32} (hf : ∀ x y, f (x ^^^ y) = f x ^^^ f y) (hg : ∀ x y, g (x ^^^ y) = g x ^^^ g y) : ∀ n, n ≤ 64 → (∀ i, i < n → f (bt i) = g (bt i)) → ∀ x, lNt x < 2 ^ n → f x = g x :=
  lin_eq (fun a b => by rw [Int32.xor_self, Int32.xor_self]) hf hg
theorem lin_eqL {f g : Int64 → Int64} (hf : ∀ x y, f (x ^^^ y) = f x ^^^ f y) (hg : ∀ x y, g (x ^^^ y) = g x ^^^ g y) : ∀ n, n ≤ 64 → (∀ i, i < n → f (bt i) = g (bt i)) → ∀ x, lNt x < 2 ^ n → f x = g x :=
  lin_eq (fun a b => by rw [Int64.xor_self, Int64.xor_self]) hf hg
/-! what the codes are made of is linear -/
theorem x_lushr (x y : Int64) (n : Int32) : j_lushr (x ^^^ y) n = j_lushr x n ^^^ j_lushr y n := by
  unfold j_lushr
  rw [Int64.toUInt64_xor, UInt64.shiftRight_xor, UInt64.toInt64_xor]
theorem x_lshl (x y : Int64) (n : Int32) : j_lshl (x ^^^ y) n = j_lshl x n ^^^ j_lshl y n := by
  unfold j_lshl
  rw [Int64.shiftLeft_xor]
theorem x_lshr (x y : Int64) (n : Int32) : j_lshr (x ^^^ y) n = j_lshr x n ^^^ j_lshr y n := by
  unfold j_lshr
  rw [Int64.shiftRight_xor]
theorem x_iushr (x y n : Int32) : j_iushr (x ^^^ y) n = j_iushr x n ^^^ j_iushr y n := by
  unfold j_iushr
  rw [Int32.toUInt32_xor, UInt32.shiftRight_xor, UInt32.toInt32_xor]
theorem x_land (x y m : Int64) : (x ^^^ y) &&& m = (x &&& m) ^^^ (y &&& m) := by
  refine Int64.toBitVec_inj.1 ?_
  rw [Int64.toBitVec_and, Int64.toBitVec_xor, Int64.toBitVec_xor, Int64.toBitVec_and, Int64.toBitVec_and]
  ext i
  simp [Bool.and_xor_distrib_right]
theorem x_iand (x y m : Int32) : (x ^^^ y) &&& m = (x &&& m) ^^^ (y &&& m) := by
  refine Int32.toBitVec_inj.1 ?_
  rw [Int32.toBitVec_and, Int32.toBitVec_xor, Int32.toBitVec_xor, Int32.toBitVec_and, Int32.toBitVec_and]
  ext i
  simp [Bool.and_xor_distrib_right]
theorem x_fb (x y : Int64) (n : Int32) : g_FL_fourBitsAt (x ^^^ y) n = g_FL_fourBitsAt x n ^^^ g_FL_fourBitsAt y n := by
  unfold g_FL_fourBitsAt
  rw [x_lushr, Int64.toInt32_xor, x_iand]
theorem i_mid (a b c d : Int32) : (a ^^^ b) ^^^ (c ^^^ d) = (a ^^^ c) ^^^ (b ^^^ d) := by
  rw [Int32.xor_assoc, Int32.xor_assoc, ← Int32.xor_assoc b, Int32.xor_comm b c, Int32.xor_assoc c]
theorem l_mid (a b c d : Int64) : (a ^^^ b) ^^^ (c ^^^ d) = (a ^^^ c) ^^^ (b ^^^ d) := by
  rw [Int64.xor_assoc, Int64.xor_assoc, ← Int64.xor_assoc b, Int64.xor_comm b c, Int64.xor_assoc c]
theorem nib_xor : ∀ i, i < 16 → ∀ j, j < 16 → (nI i ^^^ nI j).toNatClampNeg = i ^^^ j := by decide +kernel
theorem x_tf {tf : Nat → Int32} (ht : ∀ i, i < 16 → ∀ j, j < 16 → tf (i ^^^ j) = tf i ^^^ tf j) (a b : Int32) : tf ((a ^^^ b) &&& 15).toNatClampNeg = tf (a &&& 15).toNatClampNeg ^^^ tf (b &&& 15).toNatClampNeg := by
  obtain ⟨i, hi, e1⟩ := pk_andE a (m := 15) 4 rfl
  obtain ⟨j, hj, e2⟩ := pk_andE b (m := 15) 4 rfl
  rw [x_iand, e1, e2, nib_xor i hi j hj, nI_clamp (by omega), nI_clamp (by omega)]
  exact ht i hi j hj
theorem x_dv {tf : Nat → Int32} (ht : ∀ i, i < 16 → ∀ j, j < 16 → tf (i ^^^ j) = tf i ^^^ tf j) (n4 : Nat) (x2 x3 : Int32) (x y : Int64) : ∀ k a b, g_DV_rest_L15 tf n4 (x ^^^ y) x2 x3 k (a ^^^ b) = g_DV_rest_L15 tf n4 x x2 x3 k a ^^^ g_DV_rest_L15 tf n4 y x2 x3 k b := by
  intro k
  induction k with
  | zero => intro a b; rfl
  | succ k ih =>
    intro a b
    show g_DV_rest_L15 tf n4 (x ^^^ y) x2 x3 k _ = g_DV_rest_L15 tf n4 x x2 x3 k _ ^^^ g_DV_rest_L15 tf n4 y x2 x3 k _
    rw [← ih]
    congr 1
    rw [x_fb, x_iushr, i_mid, x_tf ht, Int32.shiftLeft_xor, x_iand, i_mid]
theorem x_rest {tf : Nat → Int32} (ht : ∀ i, i < 16 → ∀ j, j < 16 → tf (i ^^^ j) = tf i ^^^ tf j) (n4 : Nat) (x2 x3 : Int32) (x y : Int64) : g_DV_rest tf n4 (x ^^^ y) x2 x3 = g_DV_rest tf n4 x x2 x3 ^^^ g_DV_rest tf n4 y x2 x3 := x_dv ht n4 x2 x3 x y n4 0 0
theorem lin0 : ∀ i, i < 16 → ∀ j, j < 16 → tb0 (i ^^^ j) = tb0 i ^^^ tb0 j := by decide +kernel
theorem lin3 : ∀ i, i < 16 → ∀ j, j < 16 → tb3 (i ^^^ j) = tb3 i ^^^ tb3 j := by decide +kernel
