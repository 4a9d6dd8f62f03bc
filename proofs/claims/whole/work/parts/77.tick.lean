/-! a tick: what holds before and after -/
set_option maxHeartbeats 4000000 in
set_option maxRecDepth 100000 in
theorem hear_c (N : fl_M) (u : Int32) {c : Nat} (h2 : c ≠ 2) (h6 : c ≠ 6) (h7 : c ≠ 7) : (g_MD_hear N u).2.1 c = N.1 c := by
  have k : ∀ (i j q : Nat) (a b : Int32), q = 6 ∨ q = 7 → (fl_i (fl_i N 2 i a) q j b).1 c = N.1 c := by
    intro i j q a b hq
    rw [fi_ne (by rcases hq with e | e <;> rw [e] <;> assumption), fi_ne h2]
  unfold g_MD_hear
  split
  · rfl
  · split
    · rfl
    · split
      · split
        · split
          · exact k _ _ 7 _ _ (Or.inr rfl)
          · exact k _ _ 7 _ _ (Or.inr rfl)
        · exact k _ _ 6 _ _ (Or.inl rfl)
      · split
        · split
          · exact k _ _ 7 _ _ (Or.inr rfl)
          · exact k _ _ 7 _ _ (Or.inr rfl)
        · exact k _ _ 6 _ _ (Or.inl rfl)
set_option maxHeartbeats 4000000 in
set_option maxRecDepth 100000 in
theorem hear_l (N : fl_M) (u : Int32) : (g_MD_hear N u).2.2 = N.2 := by
  unfold g_MD_hear
  split
  · rfl
  · split
    · rfl
    · split
      · split
        · split
          · rfl
          · rfl
        · rfl
      · split
        · split
          · rfl
          · rfl
        · rfl
set_option maxHeartbeats 4000000 in
set_option maxRecDepth 100000 in
theorem hear_2 (N : fl_M) (u : Int32) {i : Nat} (hi : i ≠ ((8 * u) + (((N.1 0 3) - (N.1 0 0)) &&& 7)).toNatClampNeg) : (g_MD_hear N u).2.1 2 i = N.1 2 i := by
  have k : ∀ (j q : Nat) (a b : Int32), q = 6 ∨ q = 7 → (fl_i (fl_i N 2 (((8 * u) + (((N.1 0 3) - (N.1 0 0)) &&& 7)).toNatClampNeg) a) q j b).1 2 i = N.1 2 i := by
    intro j q a b hq
    rw [fi_ne (by rcases hq with e | e <;> rw [e] <;> decide), fi_at]
    exact pk_un hi
  unfold g_MD_hear
  split
  · rfl
  · split
    · rfl
    · split
      · split
        · split
          · exact k _ 7 _ _ (Or.inr rfl)
          · exact k _ 7 _ _ (Or.inr rfl)
        · exact k _ 6 _ _ (Or.inl rfl)
      · split
        · split
          · exact k _ 7 _ _ (Or.inr rfl)
          · exact k _ 7 _ _ (Or.inr rfl)
        · exact k _ 6 _ _ (Or.inl rfl)
/-- what holds in a tick -/
def J (N : fl_M) (W : Nat → Nat → Int32) (n d c m0 k0 m1 k1 : Nat) : Prop := N.1 0 3 = nI n ∧ N.1 0 0 = nI d ∧ N.1 0 1 = nI (2 * d + 6) ∧ N.2 0 2 = 121991 ∧ N.1 0 13 = nI c ∧ RA N W ∧ TI N W c ∧ GI (V N W).gv (V N W).gi ∧ WU N 0 m0 k0 d ∧ WU N 1 m1 k1 d ∧ q4 (N.1 0 38)
set_option maxHeartbeats 4000000 in
set_option maxRecDepth 100000 in
theorem slot0 (x : Int32) : ((8 * 0) + (x &&& 7) : Int32).toNatClampNeg < 8 := s_lt8 x
set_option maxHeartbeats 4000000 in
set_option maxRecDepth 100000 in
theorem slot1 (x : Int32) : 8 ≤ ((8 * 1) + (x &&& 7) : Int32).toNatClampNeg := by
  obtain ⟨j, hj, e⟩ := pk_andE x (m := 7) 3 rfl
  rw [e, i8_1, nI_clamp (by omega)]
  omega
set_option maxHeartbeats 4000000 in
set_option maxRecDepth 100000 in
theorem wu_dn {N N' : fl_M} {m n d : Nat} (h : WU N 0 m n d) (e2 : ∀ i, i < 8 → N'.1 2 i = N.1 2 i) (e1 : ∀ i, i < 8 → N'.2 1 i = N.2 1 i) (e3 : N'.2 3 0 = N.2 3 0) (e4 : N'.1 4 0 = N.1 4 0) : WU N' 0 m n d := by
  refine ⟨fun j hj hh => ?_, fun j hj hh => ?_, ?_, ?_⟩
  · rw [e2 _ (by omega)] at hh; exact h.sl j hj hh
  · rw [e2 _ (by omega)] at hh; rw [e1 _ (by omega)]; exact h.bl j hj hh
  · rw [e3]; exact h.no
  · rw [e4]; exact h.ou
set_option maxHeartbeats 4000000 in
set_option maxRecDepth 100000 in
theorem hear_up {N : fl_M} {m n d : Nat} (h : WU N 1 m n d) : WU (g_MD_hear N 0).2 1 m n d :=
  wu_up h (fun i hi => hear_2 N 0 (by have := slot0 (N.1 0 3 - N.1 0 0); omega)) (fun i _ => by rw [hear_l]) (by rw [hear_l]) (congrFun (hear_c N 0 (by decide) (by decide) (by decide)) 1)
set_option maxHeartbeats 4000000 in
set_option maxRecDepth 100000 in
theorem hear_dn {N : fl_M} {m n d : Nat} (h : WU N 0 m n d) : WU (g_MD_hear N 1).2 0 m n d :=
  wu_dn h (fun i hi => hear_2 N 1 (by have := slot1 (N.1 0 3 - N.1 0 0); omega)) (fun i _ => by rw [hear_l]) (by rw [hear_l]) (congrFun (hear_c N 1 (by decide) (by decide) (by decide)) 0)
set_option maxHeartbeats 4000000 in
set_option maxRecDepth 100000 in
theorem ra_same {N N1 : fl_M} {W : Nat → Nat → Int32} (h : RA N W) (e : (V N1 W).rv = (V N W).rv) : RA N1 W := by
  intro s hs; rw [e]; exact h s hs
section
variable (N : fl_M) (W : Nat → Nat → Int32) {n d c : Nat}
set_option maxHeartbeats 4000000 in
set_option maxRecDepth 100000 in
/-- the time, and the craft's ear -/
theorem j1 (hn : n + 1 < 2 ^ 31) (h1 : 1 ≤ d) (h5 : d ≤ 5) (h : J N W n d c n n n n) : J (yk_a N) W (n + 1) d c n (n + 1) n n ∧ tk_a (XX (V N W)) = XX (V (yk_a N) W) ∧ tk_av (XX (V N W)) = yk_av N ∧ (yk_av N = -1 ∨ ¬ yk_av N < 0) := by
  obtain ⟨a1, a2, a3, a4, a5, a6, a7, a8, a9, a10, a11⟩ := h
  have eN : N.1 0 3 + 1 = nI (n + 1) := by rw [a1, nI_1]
  have t0 : (fl_i N 0 3 (N.1 0 3 + 1)).1 0 3 = nI (n + 1) := fi_s.trans eN
  have z : ∀ j, j ≠ 3 → (fl_i N 0 3 (N.1 0 3 + 1)).1 0 j = N.1 0 j := fun j hj => fi_0 hj
  have w0 : WU (fl_i N 0 3 (N.1 0 3 + 1)) 0 n n d := wu_eq a9 rfl rfl rfl rfl
  have w1 : WU (fl_i N 0 3 (N.1 0 3 + 1)) 1 n n d := wu_eq a10 rfl rfl rfl rfl
  have hV0 : V (fl_i N 0 3 (N.1 0 3 + 1)) W = (mkV (N.1 0 3 + 1) (V N W).cn (V N W).fs (V N W).wf (V N W).wg (V N W).wb (V N W).gv (V N W).gz (V N W).gi (V N W).cv (V N W).st (V N W).sw (V N W).tv (V N W).tw (V N W).rv (V N W).rw) := V_0_3 N W _
  have hX0 : fl_i (XX (V N W)) 0 5 ((XX (V N W)).1 0 5 + 1) = XX (V (fl_i N 0 3 (N.1 0 3 + 1)) W) := by
    rw [X_0, X_i0, hV0]; rfl
  have s := s_hear0 (fl_i N 0 3 (N.1 0 3 + 1)) W hn t0 ((z 0 (by decide)).trans a2) h1 h5 (by omega) w0
  have c0 : ∀ j, j ≠ 3 → (yk_a N).1 0 j = N.1 0 j := fun j hj => (congrFun (hear_c _ 0 (by decide) (by decide) (by decide)) j).trans (z j hj)
  have cc : ∀ q, q ≠ 0 → q ≠ 2 → q ≠ 6 → q ≠ 7 → (yk_a N).1 q = N.1 q := fun q h0 h2 h6 h7 => (hear_c _ 0 h2 h6 h7).trans (fi_ne h0)
  have cl : (yk_a N).2 = N.2 := hear_l _ 0
  have eV : V (yk_a N) W = _ := s.2.1
  have e3 : (yk_a N).1 0 3 = nI (n + 1) := (congrFun (hear_c _ 0 (by decide) (by decide) (by decide)) 3).trans t0
  refine ⟨⟨e3, (c0 0 (by decide)).trans a2, (c0 1 (by decide)).trans a3, by rw [cl]; exact a4, (c0 13 (by decide)).trans a5, ra_same a6 (by rw [eV, hV0]; rfl), ti_same a7 (by rw [eV, hV0]; rfl) (cc 9 (by decide) (by decide) (by decide) (by decide)) (cc 19 (by decide) (by decide) (by decide) (by decide)), by rw [eV, hV0]; exact a8, s.2.2.1, hear_up w1, by rw [c0 38 (by decide)]; exact a11⟩, ?_, ?_, s.2.2.2⟩
  · unfold tk_a hg_WY_hear
    rw [hX0, X_0, X_6, X_g6, X_g7, X_pW6, eV]
    rfl
  · unfold tk_av
    rw [hX0, X_0, X_6, X_g6, X_g7]
    exact s.1.symm
end
