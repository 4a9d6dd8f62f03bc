/-! the rest of a block in the down code is linear; rest and syndrome are the same thing -/
theorem x_r22 (x y : Int64) (k4 : Nat) : ∀ k a b, g_MD_downRest_L22 (x ^^^ y) k4 k (a ^^^ b) = g_MD_downRest_L22 x k4 k a ^^^ g_MD_downRest_L22 y k4 k b := by
  intro k
  induction k with
  | zero => intro a b; rfl
  | succ k ih =>
    intro a b
    show g_MD_downRest_L22 (x ^^^ y) k4 k _ = g_MD_downRest_L22 x k4 k _ ^^^ g_MD_downRest_L22 y k4 k _
    rw [← ih]
    congr 1
    rw [x_lshr, x_land, Int64.toInt32_xor, x_tm, i_mid]
theorem ior_xor {a b m : Int32} (ha : a &&& m = 0) (hb : b &&& m = b) : a ||| b = a ^^^ b := by
  have h : a &&& b = 0 := by
    rw [← hb, Int32.and_comm b, ← Int32.and_assoc, ha, Int32.zero_and]
  have h' : a.toBitVec &&& b.toBitVec = 0 := by rw [← Int32.toBitVec_and, h]; rfl
  refine Int32.toBitVec_inj.1 ?_
  rw [Int32.toBitVec_or, Int32.toBitVec_xor]
  ext i hi
  have h2 := congrArg (fun v => v[i]) h'
  revert h2
  simp only [BitVec.getElem_and, BitVec.getElem_or, BitVec.getElem_xor]
  cases a.toBitVec[i] <;> cases b.toBitVec[i] <;> simp
theorem shl4 (a : Int32) : (a <<< (4 &&& 31)) &&& 15 = 0 := by
  have e : ((4 : Int32) &&& 31) = 4 := by decide
  rw [e]
  refine Int32.toBitVec_inj.1 (BitVec.eq_of_toNat_eq ?_)
  rw [Int32.toBitVec_and, BitVec.toNat_and]
  have e2 : (a <<< (4 : Int32)).toBitVec = a.toBitVec <<< 4 := by
    rw [Int32.toBitVec_shiftLeft]; rfl
  rw [e2, BitVec.toNat_shiftLeft]
  have e3 : (15 : Int32).toBitVec.toNat = 2 ^ 4 - 1 := rfl
  rw [e3, Nat.and_two_pow_sub_one_eq_mod, Nat.shiftLeft_eq]
  show _ = 0
  omega
theorem r22_bits : ∀ k4, k4 < 4 → ∀ i, i < 64 → g_MD_downRest_L22 (bt i) k4 15 0 &&& 15 = g_MD_downRest_L22 (bt i) k4 15 0 := by decide +kernel
theorem r22_15 {k4 : Nat} (h : k4 < 4) (x : Int64) : g_MD_downRest_L22 x k4 15 0 &&& 15 = g_MD_downRest_L22 x k4 15 0 :=
  lin_eqI (f := fun x => g_MD_downRest_L22 x k4 15 0 &&& 15) (g := fun x => g_MD_downRest_L22 x k4 15 0) (fun a b => by show g_MD_downRest_L22 _ _ _ _ &&& _ = _; rw [← x_iand]; exact congrArg (· &&& 15) (x_r22 a b k4 15 0 0)) (fun a b => x_r22 a b k4 15 0 0) 64 (by decide) (r22_bits k4 h) x (lNt_64 x)
theorem r4_s {k : Nat} (h : k < 4) (x : Int64) (al : Int32) : g_MD_downRest_L4 x (k + 1) al = g_MD_downRest_L4 x k ((al <<< (4 &&& 31)) ^^^ g_MD_downRest_L22 x k 15 0) := by
  show g_MD_downRest_L4 x k _ = _
  rw [ior_xor (m := 15) (shl4 al) (r22_15 h x)]
theorem x_r4 (x y : Int64) : ∀ k, k ≤ 4 → ∀ a b, g_MD_downRest_L4 (x ^^^ y) k (a ^^^ b) = g_MD_downRest_L4 x k a ^^^ g_MD_downRest_L4 y k b := by
  intro k
  induction k with
  | zero => intro _ a b; rfl
  | succ k ih =>
    intro h a b
    rw [r4_s (by omega), r4_s (by omega), r4_s (by omega), ← ih (by omega)]
    congr 1
    have e := x_r22 x y k 15 0 0
    rw [Int32.xor_zero] at e
    rw [e, Int32.shiftLeft_xor, i_mid]
theorem x_dr (x y : Int64) : g_MD_downRest (x ^^^ y) = g_MD_downRest x ^^^ g_MD_downRest y := x_r4 x y 4 (by decide) 0 0
theorem x_ds (x y : Int64) : g_DC_syndromeOf (x ^^^ y) = g_DC_syndromeOf x ^^^ g_DC_syndromeOf y := by
  unfold g_DC_syndromeOf
  rw [x_lushr, x_rest lin3, x_land, Int64.toInt32_xor, i_mid]
theorem ds_bits : ∀ i, i < 64 → g_DC_syndromeOf (bt i) = g_DC_syndromeOf (bt i &&& 1152921504606846975) := by decide +kernel
theorem ds_m (x : Int64) : g_DC_syndromeOf x = g_DC_syndromeOf (x &&& 1152921504606846975) :=
  lin_eqI (f := g_DC_syndromeOf) (g := fun x => g_DC_syndromeOf (x &&& 1152921504606846975)) x_ds (fun a b => by show g_DC_syndromeOf _ = _; rw [x_land, x_ds]) 64 (by decide) ds_bits x (lNt_64 x)
/-- the reference's rest is a function of the class's syndrome -/
theorem dr_bits : ∀ i, i < 60 → g_MD_downRest (bt i) = g_MD_downRest (g_DC_syndromeOf (bt i)).toInt64 := by decide +kernel
theorem dr_ds {x : Int64} (h : lNt x < 2 ^ 60) : g_MD_downRest x = g_MD_downRest (g_DC_syndromeOf x).toInt64 :=
  lin_eqI (f := g_MD_downRest) (g := fun x => g_MD_downRest (g_DC_syndromeOf x).toInt64) x_dr (fun a b => by show g_MD_downRest _ = _; rw [x_ds, Int32.toInt64_xor, x_dr]) 60 (by decide) dr_bits x h
theorem m60_lt (x : Int64) : lNt (x &&& 1152921504606846975) < 2 ^ 60 := by
  unfold lNt
  rw [Int64.toBitVec_and, BitVec.toNat_and]
  exact Nat.lt_of_le_of_lt Nat.and_le_right (by decide)
theorem di_bits : ∀ i, i < 64 → (j_lushr (bt i) 16) &&& 17592186044415 = j_lshr (bt i &&& 1152921504606846975) 16 := by decide +kernel
theorem di_eq (x : Int64) : (j_lushr x 16) &&& 17592186044415 = j_lshr (x &&& 1152921504606846975) 16 :=
  lin_eqL (f := fun x => (j_lushr x 16) &&& 17592186044415) (g := fun x => j_lshr (x &&& 1152921504606846975) 16) (fun a b => by show j_lushr _ _ &&& _ = _; rw [x_lushr, x_land]) (fun a b => by show j_lshr _ _ = _; rw [x_land, x_lshr]) 64 (by decide) di_bits x (lNt_64 x)
