/-! the syndrome back from the rest; what the class finds for a syndrome -/
def sel (n : Nat) (c r : Int64) : Int64 := if (j_lshr r (nI n)) &&& 1 = 0 then 0 else c
theorem x_sel (n : Nat) (c a b : Int64) : sel n c (a ^^^ b) = sel n c a ^^^ sel n c b := by
  unfold sel
  rw [x_lshr, x_land]
  rcases bit01 (j_lshr a (nI n)) with h1 | h1 <;> rcases bit01 (j_lshr b (nI n)) with h2 | h2 <;> rw [h1, h2]
  · rw [if_pos (by decide), if_pos (by decide), Int64.xor_zero]
  · rw [if_neg (by decide), if_pos (by decide), if_neg (by decide), Int64.zero_xor]
  · rw [if_neg (by decide), if_neg (by decide), if_pos (by decide), Int64.xor_zero]
  · rw [if_pos (by decide), if_neg (by decide), Int64.xor_self]
def tI : List Int64 → Nat → Int64 → Int64
  | [], _, _ => 0
  | c :: cs, n, r => sel n c r ^^^ tI cs (n + 1) r
theorem x_tI (a b : Int64) : ∀ cs n, tI cs n (a ^^^ b) = tI cs n a ^^^ tI cs n b := by
  intro cs
  induction cs with
  | nil => intro n; show (0 : Int64) = 0 ^^^ 0; rw [Int64.xor_zero]
  | cons c cs ih =>
    intro n
    show sel n c (a ^^^ b) ^^^ tI cs (n + 1) (a ^^^ b) = (sel n c a ^^^ tI cs (n + 1) a) ^^^ (sel n c b ^^^ tI cs (n + 1) b)
    rw [ih, x_sel, l_mid]
def tC : List Int64 := [11559, 18766, 33167, 12861, 42340, 31432, 59315, 65110, 21153, 42098, 30948, 58360, 56035, 38902, 7900, 12187]
theorem tI_bits : ∀ i, i < 16 → tI tC 0 (g_MD_downRest (bt i)).toInt64 = bt i := by decide +kernel
theorem tI_eq {s : Int64} (h : lNt s < 2 ^ 16) : tI tC 0 (g_MD_downRest s).toInt64 = s :=
  lin_eqL (f := fun s => tI tC 0 (g_MD_downRest s).toInt64) (g := fun s => s) (fun a b => by show tI _ _ _ = _; rw [x_dr, Int32.toInt64_xor, x_tI]) (fun a b => rfl) 16 (by decide) tI_bits s h
theorem sy_bits : ∀ i, i < 64 → (g_DC_syndromeOf (bt i)).toInt64 &&& 65535 = (g_DC_syndromeOf (bt i)).toInt64 := by decide +kernel
theorem sy_16 (x : Int64) : lNt (g_DC_syndromeOf x).toInt64 < 2 ^ 16 := by
  have h := lin_eqL (f := fun x => (g_DC_syndromeOf x).toInt64 &&& 65535) (g := fun x => (g_DC_syndromeOf x).toInt64) (fun a b => by show Int32.toInt64 _ &&& _ = _; rw [x_ds, Int32.toInt64_xor, x_land]) (fun a b => by show Int32.toInt64 _ = _; rw [x_ds, Int32.toInt64_xor]) 64 (by decide) sy_bits x (lNt_64 x)
  show lNt (g_DC_syndromeOf x).toInt64 < 2 ^ 16
  have h : (g_DC_syndromeOf x).toInt64 &&& 65535 = (g_DC_syndromeOf x).toInt64 := h
  rw [← h]
  unfold lNt
  rw [Int64.toBitVec_and, BitVec.toNat_and]
  exact Nat.lt_of_le_of_lt Nat.and_le_right (by decide)
/-- blocks of one rest have one syndrome -/
theorem ds_dr {x y : Int64} (hx : lNt x < 2 ^ 60) (hy : lNt y < 2 ^ 60) (h : g_MD_downRest x = g_MD_downRest y) : g_DC_syndromeOf x = g_DC_syndromeOf y := by
  rw [dr_ds hx, dr_ds hy] at h
  have h1 := tI_eq (sy_16 x)
  have h2 := tI_eq (sy_16 y)
  rw [h, h2] at h1
  have h3 := congrArg Int64.toInt32 h1
  rw [Int32.toInt32_toInt64, Int32.toInt32_toInt64] at h3
  exact h3.symm
theorem ds_0 {x : Int64} (hx : lNt x < 2 ^ 60) : g_DC_syndromeOf x = 0 ↔ g_MD_downRest x = 0 := by
  constructor
  · intro h
    rw [dr_ds hx, h]
    decide +kernel
  · intro h
    have h0 : g_MD_downRest (0 : Int64) = 0 := by decide +kernel
    have h1 : g_DC_syndromeOf (0 : Int64) = 0 := by decide +kernel
    rw [← h1]
    exact ds_dr hx (by decide) (by rw [h, h0])
