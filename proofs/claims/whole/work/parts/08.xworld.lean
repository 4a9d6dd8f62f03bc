/-! the class's world: 88 numbered cells -/
def vl_FL (ad : Nat → Nat) (q : Nat) (f : Nat → Int32) (g : Nat → Int64) : List Value := [.ref (ad (1)), .ref (ad (6)), .ref (ad (8)), .ref (ad (10)), .ref (ad (15)), .int (f 5)]
def vl_GR (ad : Nat → Nat) (q : Nat) (f : Nat → Int32) (g : Nat → Int64) : List Value := [.ref (ad (11)), .ref (ad (14)), .int (f 2)]
def vl_CT (ad : Nat → Nat) (q : Nat) (f : Nat → Int32) (g : Nat → Int64) : List Value := [.ref (ad (16)), .ref (ad (17)), .ref (ad (18)), .ref (ad (19))]
def vl_CF (ad : Nat → Nat) (q : Nat) (f : Nat → Int32) (g : Nat → Int64) : List Value := [.int (f 0), .int (f 1), .int (f 2)]
def vl_GF (ad : Nat → Nat) (q : Nat) (f : Nat → Int32) (g : Nat → Int64) : List Value := [.int (f 0), .ref (ad (12)), .ref (ad (13)), .int (f 3), .int (f 4), .int (f 5), .int (f 6), .int (f 7), .int (f 8), .int (f 9), .int (f 10)]
def vl_WY (ad : Nat → Nat) (q : Nat) (f : Nat → Int32) (g : Nat → Int64) : List Value := [.int (f 0), .int (f 1), .ref (ad (q + 1)), .long (g 3), .int (f 4), .int (f 5), .int (f 6), .int (f 7)]
def vl_TR (ad : Nat → Nat) (q : Nat) (f : Nat → Int32) (g : Nat → Int64) : List Value := [.int (f 0), .int (f 1), .ref (ad (q + 1)), .int (f 3), .int (f 4), .int (f 5), .int (f 6), .int (f 7), .int (f 8), .int (f 9), .int (f 10), .int (f 11), .int (f 12), .int (f 13), .int (f 14)]
def vl_CR (ad : Nat → Nat) (q : Nat) (f : Nat → Int32) (g : Nat → Int64) : List Value := [.int (f 0), .ref (ad (q + 1)), .int (f 2), .int (f 3), .int (f 4), .int (f 5), .int (f 6), .int (f 7), .int (f 8), .int (f 9), .int (f 10), .int (f 11), .int (f 12), .int (f 13), .int (f 14)]
def is_CR (q : Nat) : Prop := 56 ≤ q ∧ q < 88 ∧ q % 2 = 0
def is_TR (q : Nat) : Prop := 24 ≤ q ∧ q < 56 ∧ q % 2 = 0
def is_WY (q : Nat) : Prop := q = 6 ∨ q = 8
def is_FROW (q : Nat) : Prop := 2 ≤ q ∧ q < 6
def is_SROW (q : Nat) : Prop := 20 ≤ q ∧ q < 24
theorem lt_CR {q : Nat} (h : is_CR q) : q < 88 := h.2.1
theorem lt_CR1 {q : Nat} (h : is_CR q) : q + 1 < 88 := by have := h.2.1; have := h.2.2; omega
theorem lt_TR {q : Nat} (h : is_TR q) : q < 88 := by have := h.2.1; omega
theorem lt_TR1 {q : Nat} (h : is_TR q) : q + 1 < 88 := by have := h.2.1; omega
theorem lt_WY {q : Nat} (h : is_WY q) : q < 88 := by rcases h with h | h <;> omega
theorem lt_WY1 {q : Nat} (h : is_WY q) : q + 1 < 88 := by rcases h with h | h <;> omega
theorem lt_FROW {q : Nat} (h : is_FROW q) : q < 88 := by have := h.2; omega
theorem lt_SROW {q : Nat} (h : is_SROW q) : q < 88 := by have := h.2; omega
theorem is_CRof {i : Int32} (h : vp_in i 16) : is_CR (56 + 2 * i.toNatClampNeg) := by
  have : i.toNatClampNeg < 16 := Nat.not_le.mp fun q => h (Or.inr q)
  exact ⟨by omega, by omega, by omega⟩
theorem is_TRof {i : Int32} (h : vp_in i 16) : is_TR (24 + 2 * i.toNatClampNeg) := by
  have : i.toNatClampNeg < 16 := Nat.not_le.mp fun q => h (Or.inr q)
  exact ⟨by omega, by omega, by omega⟩
theorem is_FROWof {i : Int32} (h : vp_in i 4) : is_FROW (2 + i.toNatClampNeg) := by
  have : i.toNatClampNeg < 4 := Nat.not_le.mp fun q => h (Or.inr q)
  exact ⟨by omega, by omega⟩
theorem is_SROWof {i : Int32} (h : vp_in i 4) : is_SROW (20 + i.toNatClampNeg) := by
  have : i.toNatClampNeg < 4 := Nat.not_le.mp fun q => h (Or.inr q)
  exact ⟨by omega, by omega⟩
abbrev xrf (f : Nat → Nat) (n : Nat) (c : ClassId) : va_E := .inl (c, n, .inr (.inr (.inr (.inr (fun i => some (f i))))))
def xc0 (ad : Nat → Nat) (cA : Nat → ClassId) : fl_C := fun k f g => match k with
  | 0 => .inr (0, vl_FL ad 0 f g)
  | 1 => xrf (fun i => ad (2 + i)) 4 (cA 3)
  | 6 => .inr (7, vl_WY ad 6 f g)
  | 7 => .inl (cA 2, 8, .inr (.inl g))
  | 8 => .inr (7, vl_WY ad 8 f g)
  | 9 => .inl (cA 2, 8, .inr (.inl g))
  | 10 => .inr (4, vl_GR ad 10 f g)
  | 11 => .inr (5, vl_GF ad 11 f g)
  | 12 => .inl (cA 2, 16, .inr (.inl g))
  | 13 => .inl (cA 1, 16, .inl f)
  | 14 => xrf (fun i => ad (24 + 2 * i)) 16 (cA 4)
  | 15 => .inr (1, vl_CT ad 15 f g)
  | 16 => .inr (2, vl_CF ad 16 f g)
  | 17 => xrf (fun i => ad (56 + 2 * i)) 16 (cA 5)
  | 18 => .inl (cA 0, 4, .inl f)
  | 19 => xrf (fun i => ad (20 + i)) 4 (cA 3)
  | _ => .inl (cA 0, 16, .inl f)
def xc (ad : Nat → Nat) (cA : Nat → ClassId) : fl_C := fun k f g => if k < 24 then xc0 ad cA k f g else if k % 2 = 1 then .inl (cA 0, 16, .inl f) else if k < 56 then .inr (6, vl_TR ad k f g) else .inr (3, vl_CR ad k f g)
def xt (cA : Nat → ClassId) : List (ClassId × FieldType) := [(cA 0, .int), (cA 1, .boolean), (cA 2, .long), (cA 3, .array .int), (cA 4, .object "FarLink$Transaction"), (cA 5, .object "FarLink$CraftRecord")]
section XK
variable {ad : Nat → Nat} {cA : Nat → ClassId} {f : Nat → Int32} {g : Nat → Int64} {q : Nat}
theorem kg_FL : xc ad cA 0 f g = .inr (0, vl_FL ad 0 f g) := rfl
theorem kg_GR : xc ad cA 10 f g = .inr (4, vl_GR ad 10 f g) := rfl
theorem kg_CT : xc ad cA 15 f g = .inr (1, vl_CT ad 15 f g) := rfl
theorem kg_CF : xc ad cA 16 f g = .inr (2, vl_CF ad 16 f g) := rfl
theorem kg_GF : xc ad cA 11 f g = .inr (5, vl_GF ad 11 f g) := rfl
theorem kg_WY (h : is_WY q) : xc ad cA q f g = .inr (7, vl_WY ad q f g) := by rcases h with rfl | rfl <;> rfl
theorem kg_TR (h : is_TR q) : xc ad cA q f g = .inr (6, vl_TR ad q f g) := by
  obtain ⟨h1, h2, h3⟩ := h
  unfold xc
  rw [if_neg (by omega), if_neg (by omega), if_pos h2]
theorem kg_CR (h : is_CR q) : xc ad cA q f g = .inr (3, vl_CR ad q f g) := by
  obtain ⟨h1, h2, h3⟩ := h
  unfold xc
  rw [if_neg (by omega), if_neg (by omega), if_neg (by omega)]
theorem kw_CRw (h : is_CR q) : xc ad cA (q + 1) f g = .inl (cA 0, 16, .inl f) := by
  obtain ⟨h1, h2, h3⟩ := h
  unfold xc
  rw [if_neg (by omega), if_pos (by omega)]
theorem kw_TRw (h : is_TR q) : xc ad cA (q + 1) f g = .inl (cA 0, 16, .inl f) := by
  obtain ⟨h1, h2, h3⟩ := h
  unfold xc
  rw [if_neg (by omega), if_pos (by omega)]
theorem kw_WYb (h : is_WY q) : xc ad cA (q + 1) f g = .inl (cA 2, 8, .inr (.inl g)) := by rcases h with rfl | rfl <;> rfl
theorem kw_GFg : xc ad cA 12 f g = .inl (cA 2, 16, .inr (.inl g)) := rfl
theorem kw_GFz : xc ad cA 13 f g = .inl (cA 1, 16, .inl f) := rfl
theorem kw_FILES : xc ad cA 1 f g = xrf (fun i => ad (2 + i)) 4 (cA 3) := rfl
theorem kw_SWORDS : xc ad cA 19 f g = xrf (fun i => ad (20 + i)) 4 (cA 3) := rfl
theorem kw_TRS : xc ad cA 14 f g = xrf (fun i => ad (24 + 2 * i)) 16 (cA 4) := rfl
theorem kw_CRS : xc ad cA 17 f g = xrf (fun i => ad (56 + 2 * i)) 16 (cA 5) := rfl
theorem kw_SLEN : xc ad cA 18 f g = .inl (cA 0, 4, .inl f) := rfl
theorem kw_FROW (h : is_FROW q) : xc ad cA q f g = .inl (cA 0, 16, .inl f) := by
  rcases (show q = 2 ∨ q = 3 ∨ q = 4 ∨ q = 5 by have := h.1; have := h.2; omega) with rfl | rfl | rfl | rfl <;> rfl
theorem kw_SROW (h : is_SROW q) : xc ad cA q f g = .inl (cA 0, 16, .inl f) := by
  rcases (show q = 20 ∨ q = 21 ∨ q = 22 ∨ q = 23 by have := h.1; have := h.2; omega) with rfl | rfl | rfl | rfl <;> rfl
end XK
theorem fl_cm {α : Type} (f : Nat → α) {i j : Nat} (a b : α) (h : i ≠ j) : va_up (va_up f i a) j b = va_up (va_up f j b) i a := by
  funext k
  by_cases h1 : k = i
  · subst h1; rw [va_up_ne _ _ h, va_up_self, va_up_self]
  · by_cases h2 : k = j
    · subst h2; rw [va_up_self, va_up_ne _ _ h1, va_up_self]
    · rw [va_up_ne _ _ h2, va_up_ne _ _ h1, va_up_ne _ _ h1, va_up_ne _ _ h2]
def pCF (M : fl_M) (f : Nat → Int32) : fl_M := (va_up M.1 16 f, M.2)
def pGF (M : fl_M) (f z : Nat → Int32) (g : Nat → Int64) : fl_M := (va_up (va_up M.1 11 f) 13 z, va_up M.2 12 g)
def pWY (M : fl_M) (q : Nat) (f : Nat → Int32) (g b : Nat → Int64) : fl_M := (va_up M.1 q f, va_up (va_up M.2 q g) (q + 1) b)
def pTR (M : fl_M) (q : Nat) (f w : Nat → Int32) : fl_M := (va_up (va_up M.1 q f) (q + 1) w, M.2)
def pCR (M : fl_M) (q : Nat) (f w : Nat → Int32) : fl_M := (va_up (va_up M.1 q f) (q + 1) w, M.2)
section XP
variable {M : fl_M} {q k : Nat} {f z w : Nat → Int32} {g b : Nat → Int64} {v : Int32} {u : Int64} {ad : Nat → Nat} {cA : Nat → ClassId}
theorem id_CF : pCF M (M.1 16) = M := by unfold pCF; rw [fl_up_id]
theorem id_GF : pGF M (M.1 11) (M.1 13) (M.2 12) = M := by
  unfold pGF; rw [fl_up_id, fl_up_id, fl_up_id]
theorem id_WY : pWY M q (M.1 q) (M.2 q) (M.2 (q + 1)) = M := by
  unfold pWY; rw [fl_up_id, fl_up_id, fl_up_id]
theorem id_TR : pTR M q (M.1 q) (M.1 (q + 1)) = M := by
  unfold pTR; rw [fl_up_id, fl_up_id]
theorem id_CR : pCR M q (M.1 q) (M.1 (q + 1)) = M := by
  unfold pCR; rw [fl_up_id, fl_up_id]
theorem pq_CF_f : (pCF M f).1 16 = f := rfl
theorem pq_GF_f : (pGF M f z g).1 11 = f := by unfold pGF; dsimp only; rw [va_up_ne _ _ (by decide), va_up_self]
theorem pq_GF_z : (pGF M f z g).1 13 = z := rfl
theorem pq_GF_g : (pGF M f z g).2 12 = g := rfl
theorem pq_WY_f : (pWY M q f g b).1 q = f := va_up_self _ _ _
theorem pq_WY_g : (pWY M q f g b).2 q = g := by unfold pWY; dsimp only; rw [va_up_ne _ _ (by omega), va_up_self]
theorem pq_WY_b : (pWY M q f g b).2 (q + 1) = b := va_up_self _ _ _
theorem pq_TR_f : (pTR M q f w).1 q = f := by unfold pTR; dsimp only; rw [va_up_ne _ _ (by omega), va_up_self]
theorem pq_TR_w : (pTR M q f w).1 (q + 1) = w := va_up_self _ _ _
theorem pq_CR_f : (pCR M q f w).1 q = f := by unfold pCR; dsimp only; rw [va_up_ne _ _ (by omega), va_up_self]
theorem pq_CR_w : (pCR M q f w).1 (q + 1) = w := va_up_self _ _ _
theorem up_CF_f : fl_i (pCF M f) 16 k v = pCF M (upd f k v) := by
  unfold fl_i; rw [pq_CF_f]; unfold pCF; dsimp only; rw [bx_uu]
theorem up_GF_f : fl_i (pGF M f z g) 11 k v = pGF M (upd f k v) z g := by
  unfold fl_i; rw [pq_GF_f]; unfold pGF; dsimp only; rw [fl_cm _ _ _ (by decide), bx_uu]
theorem up_GF_z : fl_i (pGF M f z g) 13 k v = pGF M f (upd z k v) g := by
  unfold fl_i; rw [pq_GF_z]; unfold pGF; dsimp only; rw [bx_uu]
theorem up_GF_g : fl_l (pGF M f z g) 12 k u = pGF M f z (vp_updL g k u) := by
  unfold fl_l; rw [pq_GF_g]; unfold pGF; dsimp only; rw [bx_uu]
theorem up_WY_f : fl_i (pWY M q f g b) q k v = pWY M q (upd f k v) g b := by
  unfold fl_i; rw [pq_WY_f]; unfold pWY; dsimp only; rw [bx_uu]
theorem up_WY_g : fl_l (pWY M q f g b) q k u = pWY M q f (vp_updL g k u) b := by
  unfold fl_l; rw [pq_WY_g]; unfold pWY; dsimp only; rw [fl_cm _ _ _ (by omega), bx_uu]
theorem up_WY_b : fl_l (pWY M q f g b) (q + 1) k u = pWY M q f g (vp_updL b k u) := by
  unfold fl_l; rw [pq_WY_b]; unfold pWY; dsimp only; rw [bx_uu]
theorem up_TR_f : fl_i (pTR M q f w) q k v = pTR M q (upd f k v) w := by
  unfold fl_i; rw [pq_TR_f]; unfold pTR; dsimp only; rw [fl_cm _ _ _ (by omega), bx_uu]
theorem up_TR_w : fl_i (pTR M q f w) (q + 1) k v = pTR M q f (upd w k v) := by
  unfold fl_i; rw [pq_TR_w]; unfold pTR; dsimp only; rw [bx_uu]
theorem up_CR_f : fl_i (pCR M q f w) q k v = pCR M q (upd f k v) w := by
  unfold fl_i; rw [pq_CR_f]; unfold pCR; dsimp only; rw [fl_cm _ _ _ (by omega), bx_uu]
theorem up_CR_w : fl_i (pCR M q f w) (q + 1) k v = pCR M q f (upd w k v) := by
  unfold fl_i; rw [pq_CR_w]; unfold pCR; dsimp only; rw [bx_uu]
theorem ks_CF (f : Nat → Int32) (g : Nat → Int64) : xc ad cA 16 f g = .inr (2, vl_CF ad 16 f g) := kg_CF
theorem ks_GF (f : Nat → Int32) (g : Nat → Int64) : xc ad cA 11 f g = .inr (5, vl_GF ad 11 f g) := kg_GF
theorem ks_WY (h : is_WY q) (f : Nat → Int32) (g : Nat → Int64) : xc ad cA q f g = .inr (7, vl_WY ad q f g) := kg_WY h
theorem ks_TR (h : is_TR q) (f : Nat → Int32) (g : Nat → Int64) : xc ad cA q f g = .inr (6, vl_TR ad q f g) := kg_TR h
theorem ks_CR (h : is_CR q) (f : Nat → Int32) (g : Nat → Int64) : xc ad cA q f g = .inr (3, vl_CR ad q f g) := kg_CR h
theorem kc_CF : xc ad cA 16 ((pCF M f).1 16) ((pCF M f).2 16) = .inr (2, vl_CF ad 16 f (M.2 16)) := by rw [pq_CF_f]; exact kg_CF
theorem kc_GF : xc ad cA 11 ((pGF M f z g).1 11) ((pGF M f z g).2 11) = .inr (5, vl_GF ad 11 f (M.2 11)) := by rw [pq_GF_f]; exact kg_GF
theorem kc_WY (h : is_WY q) : xc ad cA q ((pWY M q f g b).1 q) ((pWY M q f g b).2 q) = .inr (7, vl_WY ad q f g) := by rw [pq_WY_f, pq_WY_g]; exact kg_WY h
theorem kc_TR (h : is_TR q) : xc ad cA q ((pTR M q f w).1 q) ((pTR M q f w).2 q) = .inr (6, vl_TR ad q f (M.2 q)) := by rw [pq_TR_f]; exact kg_TR h
theorem kc_CR (h : is_CR q) : xc ad cA q ((pCR M q f w).1 q) ((pCR M q f w).2 q) = .inr (3, vl_CR ad q f (M.2 q)) := by rw [pq_CR_f]; exact kg_CR h
end XP
