/-! the up code: class and reference alike -/
theorem cmp0 {x : Int64} : (lg_cmp x 0 = 0) ↔ x = 0 := by
  unfold lg_cmp
  constructor
  · intro h
    by_cases a : x = 0
    · exact a
    · exfalso
      revert h
      split
      · decide
      · decide
  · intro h
    subst h
    decide
theorem bit01 (x : Int64) : x &&& 1 = 0 ∨ x &&& 1 = 1 := by
  have h : lNt (x &&& 1) ≤ 1 := by
    unfold lNt
    rw [Int64.toBitVec_and, BitVec.toNat_and]
    exact Nat.and_le_right
  rcases Nat.lt_or_ge (lNt (x &&& 1)) 1 with h1 | h1
  · exact Or.inl (lNt_inj (by have : lNt (0 : Int64) = 0 := rfl; omega))
  · exact Or.inr (lNt_inj (by have : lNt (1 : Int64) = 1 := rfl; omega))
def xs (n : Int32) (c r : Int64) : Int64 := if (lg_cmp ((j_lshr r n) &&& 1) 0) = 0 then r else r ^^^ c
theorem x_xs (n : Int32) (c a b : Int64) : xs n c (a ^^^ b) = xs n c a ^^^ xs n c b := by
  unfold xs
  rw [x_lshr, x_land]
  rcases bit01 (j_lshr a n) with h1 | h1 <;> rcases bit01 (j_lshr b n) with h2 | h2 <;> rw [h1, h2]
  · rw [if_pos (by decide), if_pos (by decide), if_pos (by decide)]
  · rw [if_neg (by decide), if_pos (by decide), if_neg (by decide), Int64.xor_assoc]
  · rw [if_neg (by decide), if_neg (by decide), if_pos (by decide), Int64.xor_assoc, Int64.xor_assoc, Int64.xor_comm b]
  · rw [if_pos (by decide), if_neg (by decide), if_neg (by decide), l_mid, Int64.xor_self, Int64.xor_zero]
theorem up_s (k : Nat) (r : Int64) : g_MD_upRest_L10 (k + 1) r = g_MD_upRest_L10 k (xs (nI ((k + 1) + 6)) (j_lshl 197 ((nI ((k + 1) + 6)) - 7)) r) := by
  show (if _ then _ else _) = _
  unfold xs
  split
  · rfl
  · rfl
theorem x_up : ∀ k a b, g_MD_upRest_L10 k (a ^^^ b) = g_MD_upRest_L10 k a ^^^ g_MD_upRest_L10 k b := by
  intro k
  induction k with
  | zero => intro a b; rfl
  | succ k ih => intro a b; rw [up_s, up_s, up_s, x_xs, ih]
def uU (x : Int64) : Int32 := (g_MD_upRest_L10 56 x).toInt32
theorem x_uU (a b : Int64) : uU (a ^^^ b) = uU a ^^^ uU b := by
  unfold uU
  rw [x_up, Int64.toInt32_xor]
theorem uU127 : uU 127 = 127 := by decide +kernel
theorem up_uU (x : Int64) : g_MD_upRest x = uU x ^^^ 127 := by
  show uU (x ^^^ 127) = _
  rw [x_uU, uU127]
def uS (x : Int64) : Int32 := g_DV_rest tb0 14 (j_lushr x 7) 56 7 ^^^ ((x &&& 127).toInt32)
theorem x_uS (a b : Int64) : uS (a ^^^ b) = uS a ^^^ uS b := by
  unfold uS
  rw [x_lushr, x_rest lin0, x_land, Int64.toInt32_xor, i_mid]
theorem uS_bits : ∀ i, i < 64 → uS (bt i) = uU (bt i &&& 9223372036854775807) := by decide +kernel
theorem lNt_64 (x : Int64) : lNt x < 2 ^ 64 := x.toBitVec.isLt
theorem uS_eq (x : Int64) : uS x = uU (x &&& 9223372036854775807) :=
  lin_eqI (g := fun x => uU (x &&& 9223372036854775807)) x_uS (fun a b => by show uU _ = _; rw [x_land, x_uU]) 64 (by decide) uS_bits x (lNt_64 x)
theorem uc_syn (x : Int64) : g_UC_syndromeOf x = g_MD_upRest (x &&& 9223372036854775807) := by
  rw [up_uU, ← uS_eq]
  unfold g_UC_syndromeOf uS
  rw [Int32.xor_assoc, Int32.xor_assoc, Int32.xor_comm 127]
theorem us_bits : ∀ i, i < 64 → (j_lushr (bt i) 7) &&& 72057594037927935 = j_lshr (bt i &&& 9223372036854775807) 7 := by decide +kernel
theorem us_eq (x : Int64) : (j_lushr x 7) &&& 72057594037927935 = j_lshr (x &&& 9223372036854775807) 7 :=
  lin_eqL (f := fun x => (j_lushr x 7) &&& 72057594037927935) (g := fun x => j_lshr (x &&& 9223372036854775807) 7) (fun a b => by show j_lushr _ _ &&& _ = _; rw [x_lushr, x_land]) (fun a b => by show j_lshr _ _ = _; rw [x_land, x_lshr]) 64 (by decide) us_bits x (lNt_64 x)
theorem ub_bits : ∀ i, i < 63 → uU (j_lshl 1 (nI i)) = uU (bt i) ∧ j_lushr (j_lshl 1 (nI i)) 7 = j_lshr (j_lshl 1 (nI i)) 7 := by decide +kernel
theorem ut_bits : ∀ i, i < 62 → g_UC_timesX (uU (bt i)) = uU (bt (i + 1)) := by decide +kernel
theorem i_x0 {a b : Int32} : a ^^^ b = 0 ↔ a = b := Int32.xor_eq_zero_iff
theorem uc_loop (y : Int64) : ∀ k i pw, i + k = 63 → (0 < k → pw = uU (bt i)) → g_UC_infoOf_L28 k i (j_lshr y 7) (g_MD_upRest y) pw = g_MD_decodeUp_L14 y k i := by
  intro k
  induction k with
  | zero => intro i pw _ _; rfl
  | succ k ih =>
    intro i pw hk hp
    have hp := hp (by omega)
    have hb := ub_bits i (by omega)
    show (if pw = g_MD_upRest y then _ else _) = (if g_MD_upRest (y ^^^ j_lshl 1 (nI i)) = 0 then _ else _)
    have e : g_MD_upRest (y ^^^ j_lshl 1 (nI i)) = g_MD_upRest y ^^^ uU (bt i) := by
      rw [up_uU, up_uU, x_uU, hb.1, Int32.xor_assoc, Int32.xor_assoc, Int32.xor_comm (uU (bt i))]
    rw [e]
    by_cases h : pw = g_MD_upRest y
    · rw [if_pos h, if_pos (i_x0.2 (by rw [← h, hp])), hb.2, x_lshr]
    · rw [if_neg h, if_neg (fun c => h (by rw [hp, i_x0.1 c]))]
      refine ih (i + 1) _ (by omega) (fun h0 => ?_)
      rw [hp]
      exact ut_bits i (by omega)
theorem uU_1 : (1 : Int32) = uU (bt 0) := by decide +kernel
theorem uc_info (x : Int64) : g_UC_infoOf x = g_MD_decodeUp (x &&& 9223372036854775807) := by
  unfold g_UC_infoOf g_MD_decodeUp
  rw [uc_syn, us_eq]
  by_cases h : g_MD_upRest (x &&& 9223372036854775807) = 0
  · rw [if_pos h, if_pos h]
  · rw [if_neg h, if_neg h]
    exact uc_loop _ 63 0 1 rfl (fun _ => uU_1)
theorem or_xor {a b m : Int64} (ha : a &&& m = 0) (hb : b &&& m = b) : a ||| b = a ^^^ b := by
  have h : a &&& b = 0 := by
    rw [← hb, Int64.and_comm b, ← Int64.and_assoc, ha, Int64.zero_and]
  have h' : a.toBitVec &&& b.toBitVec = 0 := by rw [← Int64.toBitVec_and, h]; rfl
  refine Int64.toBitVec_inj.1 ?_
  rw [Int64.toBitVec_or, Int64.toBitVec_xor]
  ext i hi
  have h2 := congrArg (fun v => v[i]) h'
  revert h2
  simp only [BitVec.getElem_and, BitVec.getElem_or, BitVec.getElem_xor]
  cases a.toBitVec[i] <;> cases b.toBitVec[i] <;> simp
theorem m56_lt (x : Int64) : lNt (x &&& 72057594037927935) < 2 ^ 56 := by
  unfold lNt
  rw [Int64.toBitVec_and, BitVec.toNat_and]
  exact Nat.lt_of_le_of_lt Nat.and_le_right (by decide)
theorem ue_bits : ∀ i, i < 56 → uU (j_lshl (bt i) 7) = g_DV_rest tb0 14 (bt i) 56 7 := by decide +kernel
theorem um_bits : ∀ i, i < 56 → (g_DV_rest tb0 14 (bt i) 56 7).toInt64 &&& 127 = (g_DV_rest tb0 14 (bt i) 56 7).toInt64 := by decide +kernel
theorem uz_bits : ∀ i, i < 56 → j_lshl (bt i) 7 &&& 127 = (bt i &&& 0) := by decide +kernel
theorem uc_block (M : fl_M) (x : Int64) {d : Int32} (hd : d ≠ 0) : g_UC_blockOf x = g_MD_encode M d x := by
  have h1 := lin_eqI (f := fun y => uU (j_lshl y 7)) (g := fun y => g_DV_rest tb0 14 y 56 7) (fun a b => by show uU _ = _; rw [x_lshl, x_uU]) (fun a b => x_rest lin0 _ _ _ a b) 56 (by decide) ue_bits _ (m56_lt x)
  have h2 := lin_eqL (f := fun y => (g_DV_rest tb0 14 y 56 7).toInt64 &&& 127) (g := fun y => (g_DV_rest tb0 14 y 56 7).toInt64) (fun a b => by show Int32.toInt64 _ &&& _ = _; rw [x_rest lin0, Int32.toInt64_xor, x_land]) (fun a b => by show Int32.toInt64 _ = _; rw [x_rest lin0, Int32.toInt64_xor]) 56 (by decide) um_bits _ (m56_lt x)
  have h3 := lin_eqL (f := fun y => j_lshl y 7 &&& 127) (g := fun y => y &&& 0) (fun a b => by show j_lshl _ _ &&& _ = _; rw [x_lshl, x_land]) (fun a b => by show _ &&& _ = _; rw [x_land]) 56 (by decide) uz_bits _ (m56_lt x)
  rw [Int64.and_zero] at h3
  unfold g_UC_blockOf g_MD_encode
  rw [if_neg hd, up_uU, h1]
  refine or_xor (m := 127) h3 ?_
  rw [Int32.toInt64_xor, x_land, h2]
  rfl
