/-! what run's contracts ask, for the ticks that are still to come -/
def xX (d c k : Nat) (M : fl_M) : Prop := ∃ (N : fl_M) (W : Nat → Nat → Int32) (n : Nat), n + k < 2 ^ 31 ∧ M = XX (V N W) ∧ J N W n d c n n n n
def yX (d c k : Nat) (N : fl_M) : Prop := ∃ (W : Nat → Nat → Int32) (n : Nat), n + k < 2 ^ 31 ∧ J N W n d c n n n n
set_option maxHeartbeats 4000000 in
set_option maxRecDepth 100000 in
theorem xX_t {d c : Nat} (h1 : 1 ≤ d) (h5 : d ≤ 5) (hc : c ≤ 16) : ∀ k M, xX d c (k + 1) M → TK M ∧ xX d c k (g_FL_tick M) := by
  intro k M h
  obtain ⟨N, W, n, hn, rfl, hj⟩ := h
  obtain ⟨a1, a2⟩ := s_tick N W (by omega) h1 h5 hc hj
  exact ⟨p_TK N W (by omega) h1 h5 hc hj, g_MD_tick N, W, n + 1, by omega, a2, a1⟩
set_option maxHeartbeats 4000000 in
set_option maxRecDepth 100000 in
theorem xX_c {d c : Nat} (hc : c ≤ 16) : ∀ k M, xX d c k M → nn (M.1 10 2) ∧ (M.1 10 2).toNatClampNeg ≤ 16 := by
  intro k M h
  obtain ⟨N, W, n, hn, rfl, hj⟩ := h
  have e : (XX (V N W)).1 10 2 = nI c := hj.2.2.2.2.1
  exact ⟨n_a e hc, n_b e hc⟩
set_option maxHeartbeats 4000000 in
set_option maxRecDepth 100000 in
theorem yX_t {d c : Nat} (h1 : 1 ≤ d) (h5 : d ≤ 5) (hc : c ≤ 16) : ∀ k N, yX d c (k + 1) N → YTK N ∧ yX d c k (g_MD_tick N) := by
  intro k N h
  obtain ⟨W, n, hn, hj⟩ := h
  obtain ⟨a1, a2⟩ := s_tick N W (by omega) h1 h5 hc hj
  exact ⟨p_YTK N W (by omega) h1 h5 hc hj, W, n + 1, by omega, a1⟩
set_option maxHeartbeats 4000000 in
set_option maxRecDepth 100000 in
theorem xX_0 {N : fl_M} {W : Nat → Nat → Int32} {n d c : Nat} (hn : n + 100 < 2 ^ 31) (h : J N W n d c n n n n) (x : Int32) : ¬ g_FL_isBelow x 101 = 0 → xX d c x.toNatClampNeg (XX (V N W)) := by
  intro g
  obtain ⟨k, hk, rfl⟩ := b_in (b := 101) (by decide) g
  exact ⟨N, W, n, by rw [nI_clamp (by omega)]; omega, rfl, h⟩
set_option maxHeartbeats 4000000 in
set_option maxRecDepth 100000 in
theorem yX_0 {N : fl_M} {W : Nat → Nat → Int32} {n d c : Nat} (hn : n + 100 < 2 ^ 31) (h : J N W n d c n n n n) (x : Int32) : g_MD_outside x 100 = 0 → yX d c x.toNatClampNeg (fl_i N 0 4 0) := by
  intro g
  have e1 := bo (x := x) (b := 101) (h := 100) rfl
  obtain ⟨k, hk, rfl⟩ := b_in (b := 101) (by decide) (fun c' => (e1.1 c') g)
  have eV : V (fl_i N 0 4 0) W = V N W := V_0_4 N W 0
  refine ⟨W, n, by rw [nI_clamp (by omega)]; omega, ?_⟩
  obtain ⟨a1, a2, a3, a4, a5, a6, a7, a8, a9, a10, a11⟩ := h
  exact ⟨a1, a2, a3, a4, a5, ra_same a6 (by rw [eV]), ti_same a7 (by rw [eV]) rfl rfl, by rw [eV]; exact a8, wu_eq a9 rfl rfl rfl rfl, wu_eq a10 rfl rfl rfl rfl, a11⟩
set_option maxHeartbeats 4000000 in
set_option maxRecDepth 100000 in
/-- what the other calls ask -/
theorem pj_cn {N : fl_M} {W : Nat → Nat → Int32} {n d c : Nat} (hc : c ≤ 16) (h : J N W n d c n n n n) : (nn ((XX (V N W)).1 10 2) ∧ ((XX (V N W)).1 10 2).toNatClampNeg ≤ 16) ∧ nn (N.1 0 13) ∧ (N.1 0 13).toNatClampNeg ≤ 16 := by
  have e : (XX (V N W)).1 10 2 = nI c := h.2.2.2.2.1
  exact ⟨⟨n_a e hc, n_b e hc⟩, n_a h.2.2.2.2.1 hc, n_b h.2.2.2.2.1 hc⟩
set_option maxHeartbeats 4000000 in
set_option maxRecDepth 100000 in
theorem pj_op {N : fl_M} {W : Nat → Nat → Int32} {n d c : Nat} (h : J N W n d c n n n n) : nn ((XX (V N W)).1 11 5) ∧ nn (N.1 0 30) ∧ (N.1 0 30).toNatClampNeg ≤ 16 := by
  obtain ⟨o, ho, eo⟩ := h.2.2.2.2.2.2.2.1.1
  have e1 : (XX (V N W)).1 11 5 = nI o := eo
  have e2 : N.1 0 30 = nI o := eo
  exact ⟨n_a e1 (by omega), n_a e2 (by omega), n_b e2 (by omega)⟩
set_option maxHeartbeats 4000000 in
set_option maxRecDepth 100000 in
theorem pj_sl {N : fl_M} {W : Nat → Nat → Int32} (h : SV (N.1 39)) : (∀ i : Nat, i < 4 → (XX (V N W)).1 18 i ≤ 16) ∧ ∀ i : Nat, i < 4 → N.1 39 i ≤ 16 := by
  have k : ∀ i : Nat, i < 4 → N.1 39 i ≤ 16 := by
    intro i hi
    obtain ⟨l, hl, el⟩ := h i hi
    rw [el]
    exact nI_le (b := 16) hl (by decide)
  exact ⟨k, k⟩
