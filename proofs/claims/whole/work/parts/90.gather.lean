/-! the class, new: its 88 cells in the order of the contracts -/
theorem ga_pos {D : va_G} {w : va_W} {n : Nat} {ad pos : Nat → Nat} {cf : fl_C} {M : fl_M} {H : Heap} {A : Nat → Prop} (hpos : ∀ i j, i < n → j < n → pos i = pos j → i = j)
    (hw : ∀ k, k < n → ∃ e, w[pos k]? = some (ad k, e) ∧ (va_at D cls (ad k, e) H → va_at D cls (ad k, cf k (M.1 k) (M.2 k)) H)) (hP : va_P D cls w H) (hD : va_D A w) : va_P D cls (fl_w ad cf n M) H ∧ fl_inj ad n ∧ ∀ k, k < n → A (ad k) := by
  refine ⟨fun k z hz => ?_, fun i j hi hj c => ?_, fun k hk => ?_⟩
  · obtain ⟨hk, rfl⟩ := fl_of hz
    obtain ⟨e, h1, h2⟩ := hw k hk
    exact h2 (hP _ _ h1)
  · obtain ⟨e, h1, -⟩ := hw i hi
    obtain ⟨e', h2, -⟩ := hw j hj
    exact hpos i j hi hj (hD.1 _ _ _ _ h1 h2 c)
  · obtain ⟨e, h1, -⟩ := hw k hk
    exact hD.2 _ _ h1
theorem pP_len {E : Nat → Nat → va_E} {B : va_E} {r d : Nat → Nat} : ∀ i : Nat, (pP E B r d i).length = 2 * i
  | 0 => rfl
  | i + 1 => by
    show (pP E B r d i ++ [_, _]).length = _
    rw [List.length_append, pP_len i]
    show 2 * i + 2 = 2 * (i + 1)
    omega
theorem pP_a {E : Nat → Nat → va_E} {B : va_E} {r d : Nat → Nat} : ∀ (i t : Nat), t < i → (pP E B r d i)[2 * t]? = some (r t, E t (d t)) ∧ (pP E B r d i)[2 * t + 1]? = some (d t, B)
  | 0, t, h => absurd h (Nat.not_lt_zero _)
  | i + 1, t, h => by
    have hl := pP_len (E := E) (B := B) (r := r) (d := d) i
    by_cases e : t = i
    · subst e
      constructor
      · show (pP E B r d t ++ [_, _])[2 * t]? = _
        rw [List.getElem?_append_right (by omega), hl, Nat.sub_self]
        rfl
      · show (pP E B r d t ++ [_, _])[2 * t + 1]? = _
        rw [List.getElem?_append_right (by omega), hl, show 2 * t + 1 - 2 * t = 1 by omega]
        rfl
    · obtain ⟨h1, h2⟩ := pP_a (E := E) (B := B) (r := r) (d := d) i t (by omega)
      constructor
      · show (pP E B r d i ++ [_, _])[2 * t]? = _
        rw [List.getElem?_append_left (by omega)]
        exact h1
      · show (pP E B r d i ++ [_, _])[2 * t + 1]? = _
        rw [List.getElem?_append_left (by omega)]
        exact h2
theorem arrV_to {c : ClassId} {n : Nat} {f g : Nat → Value} (h : ∀ j, j < n → f j = g j) : arrV c n f = arrV c n g := by
  unfold arrV
  congr 1
  apply Array.ext
  · simp
  · intro i h1 h2
    simp at h1 ⊢
    exact h i h1
theorem va_at_q {D : va_G} {a : Nat} {c : ClassId} {n : Nat} {f g : Nat → Option Nat} {H : Heap} (hfg : ∀ j, j < n → f j = g j) (h : va_at D cls (a, .inl (c, n, .inr (.inr (.inr (.inr f))))) H) : va_at D cls (a, .inl (c, n, .inr (.inr (.inr (.inr g))))) H := by
  have h1 : H[a]? = some (vp_cell c (n, .inr (.inr (.inr (.inr f))))) := h
  show H[a]? = some (vp_cell c (n, .inr (.inr (.inr (.inr g)))))
  rw [h1, vp_cell_q, vp_cell_q, arrV_to (fun j hj => congrArg va_rf (hfg j hj))]
theorem va_at_i {D : va_G} {a : Nat} {c : ClassId} {n : Nat} {f g : Nat → Int32} {H : Heap} (hfg : ∀ j, j < n → f j = g j) (h : va_at D cls (a, .inl (c, n, .inl f)) H) : va_at D cls (a, .inl (c, n, .inl g)) H := by
  have h1 : H[a]? = some (vp_cell c (n, .inl f)) := h
  show H[a]? = some (vp_cell c (n, .inl g))
  rw [h1, vp_cell_i, vp_cell_i, arrV_to (fun j hj => congrArg Value.int (hfg j hj))]
theorem va_at_l {D : va_G} {a : Nat} {c : ClassId} {n : Nat} {f g : Nat → Int64} {H : Heap} (hfg : ∀ j, j < n → f j = g j) (h : va_at D cls (a, .inl (c, n, .inr (.inl f))) H) : va_at D cls (a, .inl (c, n, .inr (.inl g))) H := by
  have h1 : H[a]? = some (vp_cell c (n, .inr (.inl f))) := h
  show H[a]? = some (vp_cell c (n, .inr (.inl g)))
  rw [h1, vp_cell_l, vp_cell_l, arrV_to (fun j hj => congrArg Value.long (hfg j hj))]
theorem ga_0 {α : Type} {a b c : List α} {j : Nat} (h : j < a.length) : ((a ++ b) ++ c)[j]? = a[j]? := by
  rw [List.append_assoc, List.getElem?_append_left h]
theorem ga_1 {α : Type} {a b c : List α} {n j : Nat} (ha : a.length = n) (h : j < b.length) : ((a ++ b) ++ c)[n + j]? = b[j]? := by
  rw [List.append_assoc, List.getElem?_append_right (by omega), ha, Nat.add_sub_cancel_left, List.getElem?_append_left h]
theorem ga_2 {α : Type} {a b c : List α} {n j : Nat} (ha : a.length + b.length = n) : ((a ++ b) ++ c)[n + j]? = c[j]? := by
  rw [List.getElem?_append_right (by rw [List.length_append]; omega), List.length_append, ha, Nat.add_sub_cancel_left]
theorem ga_3 {α : Type} {a b : List α} {n j : Nat} (ha : a.length = n) : (a ++ b)[n + j]? = b[j]? := by
  rw [List.getElem?_append_right (by omega), ha, Nat.add_sub_cancel_left]
/-- the cells' addresses in the contracts' order -/
def adX (l : List Nat) (gr gd cr cd : Nat → Nat) (k : Nat) : Nat := if k < 24 then l.getD k 0 else if k < 56 then (if k % 2 = 0 then gr ((k - 24) / 2) else gd ((k - 24) / 2)) else if k % 2 = 0 then cr ((k - 56) / 2) else cd ((k - 56) / 2)
theorem adX_a {l : List Nat} {gr gd cr cd : Nat → Nat} {t : Nat} (h : t < 16) : adX l gr gd cr cd (24 + 2 * t) = gr t := by
  unfold adX
  rw [if_neg (by omega), if_pos (by omega), if_pos (by omega), show (24 + 2 * t - 24) / 2 = t by omega]
theorem adX_b {l : List Nat} {gr gd cr cd : Nat → Nat} {t : Nat} (h : t < 16) : adX l gr gd cr cd (24 + 2 * t + 1) = gd t := by
  unfold adX
  rw [if_neg (by omega), if_pos (by omega), if_neg (by omega), show (24 + 2 * t + 1 - 24) / 2 = t by omega]
theorem adX_c {l : List Nat} {gr gd cr cd : Nat → Nat} {t : Nat} (h : t < 16) : adX l gr gd cr cd (56 + 2 * t) = cr t := by
  unfold adX
  rw [if_neg (by omega), if_neg (by omega), if_pos (by omega), show (56 + 2 * t - 56) / 2 = t by omega]
theorem adX_d {l : List Nat} {gr gd cr cd : Nat → Nat} {t : Nat} (h : t < 16) : adX l gr gd cr cd (56 + 2 * t + 1) = cd t := by
  unfold adX
  rw [if_neg (by omega), if_neg (by omega), if_neg (by omega), show (56 + 2 * t + 1 - 56) / 2 = t by omega]
def poX (k : Nat) : Nat := if k < 24 then ([0, 1, 2, 3, 4, 5, 6, 7, 8, 9, 10, 12, 13, 14, 11, 47, 48, 49, 50, 51, 52, 53, 54, 55] : List Nat).getD k 0 else if k < 56 then k - 9 else k
theorem poX_lo : ∀ k, k < 24 → poX k < 15 ∨ (47 ≤ poX k ∧ poX k < 56) := by decide
theorem poX_24 : ∀ i, i < 24 → ∀ j, j < 24 → poX i = poX j → i = j := by decide
theorem poX_inj : ∀ i j, i < 88 → j < 88 → poX i = poX j → i = j := by
  intro i j hi hj c
  by_cases h1 : i < 24
  · by_cases h2 : j < 24
    · exact poX_24 i h1 j h2 c
    · have := poX_lo i h1
      have e : poX j = if j < 56 then j - 9 else j := if_neg h2
      rw [e] at c
      split at c <;> omega
  · have e1 : poX i = if i < 56 then i - 9 else i := if_neg h1
    by_cases h2 : j < 24
    · have := poX_lo j h2
      rw [e1] at c
      split at c <;> omega
    · have e : poX j = if j < 56 then j - 9 else j := if_neg h2
      rw [e, e1] at c
      split at c <;> split at c <;> omega
theorem sp_nI {x : Int32} {d : Nat} (h : x = nI d) : 2 * x + 6 = nI (2 * d + 6) := by
  rw [h]
  show (nI 2) * (nI d) + nI 6 = _
  rw [← nI_add]
  congr 1
  exact (Int32.ofNat_mul 2 d).symm

set_option maxHeartbeats 4000000 in
set_option maxRecDepth 100000 in
theorem ga_all {D : va_G} {cA : Nat → ClassId} {d : Nat} {A : Nat → Prop} {H : Heap} {h0 q8 qu qa qd qb qg g7 g14 g1 g2 qc c5 c18 c26 c35 : Nat} {fa fb : Nat → Int64} {gf cf : Nat → Option Nat} {gr gd cr cd : Nat → Nat} (hfa : ∀ j, j < 8 → fa j = -1) (hfb : ∀ j, j < 8 → fb j = -1) (hgf : ∀ j, j < 16 → gf j = some (gr j)) (hcf : ∀ j, j < 16 → cf j = some (cr j)) (hP : va_P D cls ((((([(h0, .inr (0, [.ref q8, .ref qu, .ref qd, .ref qg, .ref qc, .int 0]))] ++ mArr q8 4 16 (cA 0) (cA 3)) ++ [(qu, .inr (7, wy0 1 (nI d) qa)), (qa, .inl (cA 2, 8, .inr (.inl fa)))]) ++ [(qd, .inr (7, wy0 0 (nI d) qb)), (qb, .inl (cA 2, 8, .inr (.inl fb)))]) ++ ([(qg, .inr (4, [.ref g14, .ref g7, .int 0])), (g7, .inl (cA 4, 16, .inr (.inr (.inr (.inr gf))))), (g14, .inr (5, gf0 (nI (2 * d + 6)) g1 g2)), (g1, .inl (cA 2, 16, .inr (.inl z64))), (g2, .inl (cA 1, 16, .inl z32))] ++ pP (fun t q => .inr (6, tr0 (nI t) (nI (2 * d + 6)) q)) (.inl (cA 0, 16, .inl z32)) gr gd 16)) ++ (([(qc, .inr (1, [.ref c5, .ref c18, .ref c26, .ref c35])), (c5, .inr (2, [.int 0, .int 0, .int 0])), (c18, .inl (cA 5, 16, .inr (.inr (.inr (.inr cf))))), (c26, .inl (cA 0, 4, .inl z32))] ++ mArr c35 4 16 (cA 0) (cA 3)) ++ pP (fun _ q => .inr (3, cr0 (nI (2 * d + 6)) q)) (.inl (cA 0, 16, .inl z32)) cr cd 16)) H) (hD : va_D A ((((([(h0, .inr (0, [.ref q8, .ref qu, .ref qd, .ref qg, .ref qc, .int 0]))] ++ mArr q8 4 16 (cA 0) (cA 3)) ++ [(qu, .inr (7, wy0 1 (nI d) qa)), (qa, .inl (cA 2, 8, .inr (.inl fa)))]) ++ [(qd, .inr (7, wy0 0 (nI d) qb)), (qb, .inl (cA 2, 8, .inr (.inl fb)))]) ++ ([(qg, .inr (4, [.ref g14, .ref g7, .int 0])), (g7, .inl (cA 4, 16, .inr (.inr (.inr (.inr gf))))), (g14, .inr (5, gf0 (nI (2 * d + 6)) g1 g2)), (g1, .inl (cA 2, 16, .inr (.inl z64))), (g2, .inl (cA 1, 16, .inl z32))] ++ pP (fun t q => .inr (6, tr0 (nI t) (nI (2 * d + 6)) q)) (.inl (cA 0, 16, .inl z32)) gr gd 16)) ++ (([(qc, .inr (1, [.ref c5, .ref c18, .ref c26, .ref c35])), (c5, .inr (2, [.int 0, .int 0, .int 0])), (c18, .inl (cA 5, 16, .inr (.inr (.inr (.inr cf))))), (c26, .inl (cA 0, 4, .inl z32))] ++ mArr c35 4 16 (cA 0) (cA 3)) ++ pP (fun _ q => .inr (3, cr0 (nI (2 * d + 6)) q)) (.inl (cA 0, 16, .inl z32)) cr cd 16))) : va_P D cls (fl_w (adX [h0, q8, q8 + 1 + 0, q8 + 1 + 1, q8 + 1 + 2, q8 + 1 + 3, qu, qa, qd, qb, qg, g14, g1, g2, g7, qc, c5, c18, c26, c35, c35 + 1 + 0, c35 + 1 + 1, c35 + 1 + 2, c35 + 1 + 3] gr gd cr cd) (xc (adX [h0, q8, q8 + 1 + 0, q8 + 1 + 1, q8 + 1 + 2, q8 + 1 + 3, qu, qa, qd, qb, qg, g14, g1, g2, g7, qc, c5, c18, c26, c35, c35 + 1 + 0, c35 + 1 + 1, c35 + 1 + 2, c35 + 1 + 3] gr gd cr cd) cA) 88 (XX (V (N0 d) zW))) H ∧ fl_inj (adX [h0, q8, q8 + 1 + 0, q8 + 1 + 1, q8 + 1 + 2, q8 + 1 + 3, qu, qa, qd, qb, qg, g14, g1, g2, g7, qc, c5, c18, c26, c35, c35 + 1 + 0, c35 + 1 + 1, c35 + 1 + 2, c35 + 1 + 3] gr gd cr cd) 88 ∧ ∀ k, k < 88 → A ((adX [h0, q8, q8 + 1 + 0, q8 + 1 + 1, q8 + 1 + 2, q8 + 1 + 3, qu, qa, qd, qb, qg, g14, g1, g2, g7, qc, c5, c18, c26, c35, c35 + 1 + 0, c35 + 1 + 1, c35 + 1 + 2, c35 + 1 + 3] gr gd cr cd) k) := by
  have hl0 : (((([(h0, .inr (0, [.ref q8, .ref qu, .ref qd, .ref qg, .ref qc, .int 0]))] ++ mArr q8 4 16 (cA 0) (cA 3)) ++ [(qu, .inr (7, wy0 1 (nI d) qa)), (qa, .inl (cA 2, 8, .inr (.inl fa)))]) ++ [(qd, .inr (7, wy0 0 (nI d) qb)), (qb, .inl (cA 2, 8, .inr (.inl fb)))]) : va_W).length = 10 := rfl
  have hl1 : (([(qg, .inr (4, [.ref g14, .ref g7, .int 0])), (g7, .inl (cA 4, 16, .inr (.inr (.inr (.inr gf))))), (g14, .inr (5, gf0 (nI (2 * d + 6)) g1 g2)), (g1, .inl (cA 2, 16, .inr (.inl z64))), (g2, .inl (cA 1, 16, .inl z32))] ++ pP (fun t q => .inr (6, tr0 (nI t) (nI (2 * d + 6)) q)) (.inl (cA 0, 16, .inl z32)) gr gd 16) : va_W).length = 37 := by rw [List.length_append, pP_len]; rfl
  refine ga_pos poX_inj (fun k hk => ?_) hP hD
  by_cases h24 : k < 24
  · match k, h24 with
    | 0, _ => exact ⟨_, (ga_0 (j := 0) (by rw [hl0]; decide)).trans rfl, fun h => h⟩
    | 1, _ => exact ⟨_, (ga_0 (j := 1) (by rw [hl0]; decide)).trans rfl, va_at_q (fun j hj => by rcases (show j = 0 ∨ j = 1 ∨ j = 2 ∨ j = 3 by omega) with rfl | rfl | rfl | rfl <;> rfl)⟩
    | 2, _ => exact ⟨_, (ga_0 (j := 2) (by rw [hl0]; decide)).trans rfl, va_at_i (fun j hj => (if_pos hj).symm)⟩
    | 3, _ => exact ⟨_, (ga_0 (j := 3) (by rw [hl0]; decide)).trans rfl, va_at_i (fun j hj => (if_pos hj).symm)⟩
    | 4, _ => exact ⟨_, (ga_0 (j := 4) (by rw [hl0]; decide)).trans rfl, va_at_i (fun j hj => (if_pos hj).symm)⟩
    | 5, _ => exact ⟨_, (ga_0 (j := 5) (by rw [hl0]; decide)).trans rfl, va_at_i (fun j hj => (if_pos hj).symm)⟩
    | 6, _ => exact ⟨_, (ga_0 (j := 6) (by rw [hl0]; decide)).trans rfl, fun h => h⟩
    | 7, _ => exact ⟨_, (ga_0 (j := 7) (by rw [hl0]; decide)).trans rfl, va_at_l (fun j hj => (hfa j hj).trans (by show (-1 : Int64) = yWb (N0 d) 0 j; unfold yWb; rw [if_pos hj]; rfl))⟩
    | 8, _ => exact ⟨_, (ga_0 (j := 8) (by rw [hl0]; decide)).trans rfl, fun h => h⟩
    | 9, _ => exact ⟨_, (ga_0 (j := 9) (by rw [hl0]; decide)).trans rfl, va_at_l (fun j hj => (hfb j hj).trans (by show (-1 : Int64) = yWb (N0 d) 1 j; unfold yWb; rw [if_pos hj]; rfl))⟩
    | 10, _ => exact ⟨_, (ga_1 (n := 10) (j := 0) hl0 (by rw [hl1]; decide)).trans rfl, fun h => h⟩
    | 11, _ => exact ⟨_, (ga_1 (n := 10) (j := 2) hl0 (by rw [hl1]; decide)).trans rfl, fun h => h⟩
    | 12, _ => exact ⟨_, (ga_1 (n := 10) (j := 3) hl0 (by rw [hl1]; decide)).trans rfl, va_at_l (fun j hj => rfl)⟩
    | 13, _ => exact ⟨_, (ga_1 (n := 10) (j := 4) hl0 (by rw [hl1]; decide)).trans rfl, va_at_i (fun j hj => rfl)⟩
    | 14, _ => exact ⟨_, (ga_1 (n := 10) (j := 1) hl0 (by rw [hl1]; decide)).trans rfl, va_at_q (fun j hj => (hgf j hj).trans (congrArg some (adX_a hj).symm))⟩
    | 15, _ => exact ⟨_, (ga_2 (n := 47) (j := 0) (by rw [hl0, hl1])).trans rfl, fun h => h⟩
    | 16, _ => exact ⟨_, (ga_2 (n := 47) (j := 1) (by rw [hl0, hl1])).trans rfl, fun h => h⟩
    | 17, _ => exact ⟨_, (ga_2 (n := 47) (j := 2) (by rw [hl0, hl1])).trans rfl, va_at_q (fun j hj => (hcf j hj).trans (congrArg some (adX_c hj).symm))⟩
    | 18, _ => exact ⟨_, (ga_2 (n := 47) (j := 3) (by rw [hl0, hl1])).trans rfl, va_at_i (fun j hj => rfl)⟩
    | 19, _ => exact ⟨_, (ga_2 (n := 47) (j := 4) (by rw [hl0, hl1])).trans rfl, va_at_q (fun j hj => by rcases (show j = 0 ∨ j = 1 ∨ j = 2 ∨ j = 3 by omega) with rfl | rfl | rfl | rfl <;> rfl)⟩
    | 20, _ => exact ⟨_, (ga_2 (n := 47) (j := 5) (by rw [hl0, hl1])).trans rfl, va_at_i (fun j hj => (if_pos hj).symm)⟩
    | 21, _ => exact ⟨_, (ga_2 (n := 47) (j := 6) (by rw [hl0, hl1])).trans rfl, va_at_i (fun j hj => (if_pos hj).symm)⟩
    | 22, _ => exact ⟨_, (ga_2 (n := 47) (j := 7) (by rw [hl0, hl1])).trans rfl, va_at_i (fun j hj => (if_pos hj).symm)⟩
    | 23, _ => exact ⟨_, (ga_2 (n := 47) (j := 8) (by rw [hl0, hl1])).trans rfl, va_at_i (fun j hj => (if_pos hj).symm)⟩
    | n + 24, h => exact absurd h (by omega)
  · by_cases h56 : k < 56
    · by_cases h2 : k % 2 = 0
      · obtain ⟨t, rfl⟩ : ∃ t, k = 24 + 2 * t := ⟨(k - 24) / 2, by omega⟩
        have ht : t < 16 := by omega
        have e1 : poX (24 + 2 * t) = 10 + (5 + 2 * t) := by unfold poX; rw [if_neg h24, if_pos h56]; omega
        refine ⟨.inr (6, tr0 (nI t) (nI (2 * d + 6)) (gd t)), ?_, ?_⟩
        · rw [e1, ga_1 hl0 (by rw [hl1]; omega), adX_a ht, ga_3 (n := 5) (j := 2 * t) rfl]
          exact (pP_a 16 t ht).1
        · rw [X_tv _ ht, kg_TR ⟨by omega, by omega, by omega⟩]
          unfold vl_TR
          rw [adX_b ht]
          exact fun h => h
      · obtain ⟨t, rfl⟩ : ∃ t, k = 24 + 2 * t + 1 := ⟨(k - 24) / 2, by omega⟩
        have ht : t < 16 := by omega
        have e1 : poX (24 + 2 * t + 1) = 10 + (5 + (2 * t + 1)) := by unfold poX; rw [if_neg h24, if_pos h56]; omega
        refine ⟨.inl (cA 0, 16, .inl z32), ?_, ?_⟩
        · rw [e1, ga_1 hl0 (by rw [hl1]; omega), adX_b ht, ga_3 (n := 5) (j := 2 * t + 1) rfl]
          exact (pP_a 16 t ht).2
        · rw [X_tw _ ht, kw_TRw ⟨by omega, by omega, by omega⟩]
          exact va_at_i (fun j hj => rfl)
    · by_cases h2 : k % 2 = 0
      · obtain ⟨t, rfl⟩ : ∃ t, k = 56 + 2 * t := ⟨(k - 56) / 2, by omega⟩
        have ht : t < 16 := by omega
        have e1 : poX (56 + 2 * t) = 47 + (9 + 2 * t) := by unfold poX; rw [if_neg h24, if_neg h56]; omega
        refine ⟨.inr (3, cr0 (nI (2 * d + 6)) (cd t)), ?_, ?_⟩
        · rw [e1, ga_2 (by rw [hl0, hl1]), adX_c ht, ga_3 (n := 9) (j := 2 * t) rfl]
          exact (pP_a 16 t ht).1
        · rw [X_rv _ ht, kg_CR ⟨by omega, by omega, by omega⟩]
          unfold vl_CR
          rw [adX_d ht]
          exact fun h => h
      · obtain ⟨t, rfl⟩ : ∃ t, k = 56 + 2 * t + 1 := ⟨(k - 56) / 2, by omega⟩
        have ht : t < 16 := by omega
        have e1 : poX (56 + 2 * t + 1) = 47 + (9 + (2 * t + 1)) := by unfold poX; rw [if_neg h24, if_neg h56]; omega
        refine ⟨.inl (cA 0, 16, .inl z32), ?_, ?_⟩
        · rw [e1, ga_2 (by rw [hl0, hl1]), adX_d ht, ga_3 (n := 9) (j := 2 * t + 1) rfl]
          exact (pP_a 16 t ht).2
        · rw [X_rw _ ht, kw_CRw ⟨by omega, by omega, by omega⟩]
          exact va_at_i (fun j hj => (if_pos hj).symm)
theorem ga_FL {D : va_G} {cA : Nat → ClassId} {d : Nat} {A : Nat → Prop} {H : Heap} {h0 : Nat} {x1 : Int32} {w1 : va_W} (hd : held x1 = nI d) (hw : ∃ (q8 q33 q46 q59 q71 qa qb : Nat) (fa fb : Nat → Int64) (wg wc : va_W), (∀ j, j < 8 → fa j = -1) ∧ (∀ j, j < 8 → fb j = -1) ∧ eGR cA (2 * held x1 + 6) q59 wg ∧ eCT cA (2 * held x1 + 6) q71 wc ∧ w1 = (((([(h0, .inr (0, [.ref q8, .ref q33, .ref q46, .ref q59, .ref q71, .int 0]))] ++ mArr q8 4 16 (cA 0) (cA 3)) ++ [(q33, .inr (7, wy0 1 (held x1) qa)), (qa, .inl (cA 2, 8, .inr (.inl fa)))]) ++ [(q46, .inr (7, wy0 0 (held x1) qb)), (qb, .inl (cA 2, 8, .inr (.inl fb)))]) ++ wg) ++ wc) (hP : va_P D cls w1 H) (hD : va_D A w1) : ∃ ad : Nat → Nat, ad 0 = h0 ∧ va_P D cls (fl_w ad (xc ad cA) 88 (XX (V (N0 d) zW))) H ∧ fl_inj ad 88 ∧ ∀ k, k < 88 → A (ad k) := by
  obtain ⟨q8, qu, qd, qg, qc, qa, qb, fa, fb, wg, wc, hfa, hfb, hg, hc, rfl⟩ := hw
  rw [sp_nI hd] at hg hc
  obtain ⟨g7, g14, g1, g2, gf, gr, gd, hgf, rfl⟩ := hg
  obtain ⟨c5, c18, c26, c35, cf, cr, cd, hcf, rfl⟩ := hc
  rw [hd] at hP hD
  exact ⟨_, rfl, ga_all hfa hfb hgf hcf hP hD⟩
