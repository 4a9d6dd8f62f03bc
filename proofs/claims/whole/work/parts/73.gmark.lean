/-! the ground's frames -/
def ixx (nx : Int32) (a : Nat) : Nat := ((nx - nI a) &&& 15).toNatClampNeg
/-- frames i .. i + k - 1 back from nx are marked, nothing else is changed -/
def CH (nx : Int32) (i k : Nat) (z z' : Nat → Int32) : Prop := (∀ a, i ≤ a → a < i + k → z' (ixx nx a) = 1) ∧ ∀ j, (∀ a, i ≤ a → a < i + k → j ≠ ixx nx a) → z' j = z j
set_option maxHeartbeats 4000000 in
set_option maxRecDepth 100000 in
theorem CH.uniq {nx : Int32} {i k : Nat} {z z1 z2 : Nat → Int32} (h1 : CH nx i k z z1) (h2 : CH nx i k z z2) : z1 = z2 := by
  funext j
  by_cases h : ∃ a, i ≤ a ∧ a < i + k ∧ j = ixx nx a
  · obtain ⟨a, ha, hb, rfl⟩ := h
    rw [h1.1 a ha hb, h2.1 a ha hb]
  · have h' : ∀ a, i ≤ a → a < i + k → j ≠ ixx nx a := fun a ha hb c => h ⟨a, ha, hb, c⟩
    rw [h1.2 j h', h2.2 j h']
set_option maxHeartbeats 4000000 in
set_option maxRecDepth 100000 in
theorem mk5 : ∀ k (f z : Nat → Int32) (g : Nat → Int64), (g_GF_markAll_L5 k f z g).1 = f ∧ (g_GF_markAll_L5 k f z g).2.2 = g ∧ CH (f 4) 1 k z (g_GF_markAll_L5 k f z g).2.1 := by
  intro k
  induction k with
  | zero => intro f z g; exact ⟨rfl, rfl, fun a h1 h2 => by omega, fun j _ => rfl⟩
  | succ k ih =>
    intro f z g
    obtain ⟨h1, h2, h3, h4⟩ := ih f (upd z (ixx (f 4) (k + 1)) 1) g
    refine ⟨h1, h2, fun a ha hb => ?_, fun j hj => ?_⟩
    · show (g_GF_markAll_L5 k f (upd z (ixx (f 4) (k + 1)) 1) g).2.1 (ixx (f 4) a) = 1
      by_cases hc : ∃ b, 1 ≤ b ∧ b < 1 + k ∧ ixx (f 4) a = ixx (f 4) b
      · obtain ⟨b, hb1, hb2, e⟩ := hc
        rw [e]; exact h3 b hb1 hb2
      · rw [h4 _ (fun b hb1 hb2 c => hc ⟨b, hb1, hb2, c⟩)]
        have : a = k + 1 := by
          rcases Nat.lt_or_ge a (1 + k) with h | h
          · exact absurd ⟨a, ha, h, rfl⟩ hc
          · omega
        rw [this]; exact pk_us
    · show (g_GF_markAll_L5 k f (upd z (ixx (f 4) (k + 1)) 1) g).2.1 j = z j
      rw [h4 j (fun b hb1 hb2 => hj b hb1 (by omega)), pk_un (hj (k + 1) (by omega) (by omega))]
set_option maxHeartbeats 4000000 in
set_option maxRecDepth 100000 in
theorem mk2 (W : Nat → Nat → Int32) : ∀ k i (N : fl_M), V (g_MD_markAll_L2 k i N) W = (mkV (V N W).tm (V N W).cn (V N W).fs (V N W).wf (V N W).wg (V N W).wb (V N W).gv ((g_MD_markAll_L2 k i N).1 24) (V N W).gi (V N W).cv (V N W).st (V N W).sw (V N W).tv (V N W).tw (V N W).rv (V N W).rw) ∧ CH (N.1 0 29) i k (N.1 24) ((g_MD_markAll_L2 k i N).1 24) ∧ (∀ c, c ≠ 24 → (g_MD_markAll_L2 k i N).1 c = N.1 c) ∧ (g_MD_markAll_L2 k i N).2 = N.2 := by
  intro k
  induction k with
  | zero => intro i N; exact ⟨(p_eta _).symm, ⟨fun a h1 h2 => by omega, fun j _ => rfl⟩, fun _ _ => rfl, rfl⟩
  | succ k ih =>
    intro i N
    obtain ⟨h1, ⟨h3, h4⟩, h5, h6⟩ := ih (i + 1) (fl_i N 24 (ixx (N.1 0 29) i) 1)
    have e0 : (fl_i N 24 (ixx (N.1 0 29) i) 1).1 0 29 = N.1 0 29 := fi_n (by decide)
    have e24 : (fl_i N 24 (ixx (N.1 0 29) i) 1).1 24 = upd (N.1 24) (ixx (N.1 0 29) i) 1 := fi_at
    rw [e0] at h3 h4
    rw [e24] at h4
    refine ⟨?_, ⟨fun a ha hb => ?_, fun j hj => ?_⟩, fun c hc => ?_, h6⟩
    · show V (g_MD_markAll_L2 k (i + 1) (fl_i N 24 (ixx (N.1 0 29) i) 1)) W = _
      rw [h1]
      (simp only [V_24, mm_gz]) <;> dsimp only [m_tm, m_cn, m_fs, m_wf, m_wg, m_wb, m_gv, m_gz, m_gi, m_cv, m_st, m_sw, m_tv, m_tw, m_rv, m_rw, p_tm, p_cn, p_fs, p_wf, p_wg, p_wb, p_gv, p_gz, p_gi, p_cv, p_st, p_sw, p_tv, p_tw, p_rv, p_rw]
      rfl
    · show (g_MD_markAll_L2 k (i + 1) (fl_i N 24 (ixx (N.1 0 29) i) 1)).1 24 (ixx (N.1 0 29) a) = 1
      by_cases hc : ∃ b, i + 1 ≤ b ∧ b < i + 1 + k ∧ ixx (N.1 0 29) a = ixx (N.1 0 29) b
      · obtain ⟨b, hb1, hb2, e⟩ := hc
        rw [e]; exact h3 b hb1 hb2
      · rw [h4 _ (fun b hb1 hb2 c => hc ⟨b, hb1, hb2, c⟩)]
        have : a = i := by
          rcases Nat.lt_or_ge i a with h | h
          · exact absurd ⟨a, h, by omega, rfl⟩ hc
          · omega
        rw [this]; exact pk_us
    · show (g_MD_markAll_L2 k (i + 1) (fl_i N 24 (ixx (N.1 0 29) i) 1)).1 24 j = N.1 24 j
      rw [h4 j (fun b hb1 hb2 => hj b (by omega) (by omega)), pk_un (hj i (by omega) (by omega))]
    · show (g_MD_markAll_L2 k (i + 1) (fl_i N 24 (ixx (N.1 0 29) i) 1)).1 c = N.1 c
      rw [h5 c hc, fi_ne hc]
set_option maxHeartbeats 4000000 in
set_option maxRecDepth 100000 in
/-- marking all -/
theorem s_mark (N : fl_M) (W : Nat → Nat → Int32) : V (g_MD_markAll N) W = (mkV (V N W).tm (V N W).cn (V N W).fs (V N W).wf (V N W).wg (V N W).wb (V N W).gv ((g_GF_markAll (V N W).gv (V N W).gz (V N W).gi).2.1) (V N W).gi (V N W).cv (V N W).st (V N W).sw (V N W).tv (V N W).tw (V N W).rv (V N W).rw) := by
  unfold g_MD_markAll g_GF_markAll
  obtain ⟨h1, h2, h3, h4⟩ := mk2 W (N.1 0 30).toNatClampNeg 1 N
  obtain ⟨k1, k2, k3⟩ := mk5 ((V N W).gv 5).toNatClampNeg (V N W).gv (V N W).gz (V N W).gi
  rw [h1]
  have e : (g_MD_markAll_L2 (N.1 0 30).toNatClampNeg 1 N).1 24 = (g_GF_markAll_L5 ((V N W).gv 5).toNatClampNeg (V N W).gv (V N W).gz (V N W).gi).2.1 := CH.uniq h2 k3
  rw [e]
set_option maxHeartbeats 4000000 in
set_option maxRecDepth 100000 in
theorem mark_f (f z : Nat → Int32) (g : Nat → Int64) : (g_GF_markAll f z g).1 = f ∧ (g_GF_markAll f z g).2.2 = g := ⟨(mk5 _ f z g).1, (mk5 _ f z g).2.1⟩
set_option maxHeartbeats 4000000 in
set_option maxRecDepth 100000 in
theorem mark_c (N : fl_M) {c : Nat} (hc : c ≠ 24) : (g_MD_markAll N).1 c = N.1 c := (mk2 (fun _ _ => 0) _ 1 N).2.2.1 c hc
set_option maxHeartbeats 4000000 in
set_option maxRecDepth 100000 in
theorem mark_2 (N : fl_M) : (g_MD_markAll N).2 = N.2 := (mk2 (fun _ _ => 0) _ 1 N).2.2.2
abbrev G3 : Type := (Nat → Int32) × (Nat → Int32) × (Nat → Int64)
/-- the parts of the ground's frames put in -/
def pG (v : Vw) (G : G3) : Vw := (mkV v.tm v.cn v.fs v.wf v.wg v.wb (G.1) (G.2.1) (G.2.2) v.cv v.st v.sw v.tv v.tw v.rv v.rw)
set_option maxHeartbeats 4000000 in
set_option maxRecDepth 100000 in
theorem s_alert (N : fl_M) (W : Nat → Nat → Int32) (x : Int32) : V (g_MD_alert N x) W = pG (V N W) (g_GF_alert (V N W).gv (V N W).gz (V N W).gi x) := by
  unfold g_MD_alert
  (simp only [V_0_37, V_0_30, V_0_28, V_0_33, V_0_34, V_0_35, V_0_36, mm_gv]) <;> dsimp only [m_tm, m_cn, m_fs, m_wf, m_wg, m_wb, m_gv, m_gz, m_gi, m_cv, m_st, m_sw, m_tv, m_tw, m_rv, m_rw, p_tm, p_cn, p_fs, p_wf, p_wg, p_wb, p_gv, p_gz, p_gi, p_cv, p_st, p_sw, p_tv, p_tw, p_rv, p_rw]
  unfold pG g_GF_alert
  dsimp only [m_tm, m_cn, m_fs, m_wf, m_wg, m_wb, m_gv, m_gz, m_gi, m_cv, m_st, m_sw, m_tv, m_tw, m_rv, m_rw, p_tm, p_cn, p_fs, p_wf, p_wg, p_wb, p_gv, p_gz, p_gi, p_cv, p_st, p_sw, p_tv, p_tw, p_rv, p_rw]
  congr 1
  exact (funext fun i => match i with | 0 => rfl | 1 => rfl | 2 => rfl | 3 => rfl | 4 => rfl | 5 => rfl | 6 => rfl | 7 => rfl | 8 => rfl | 9 => rfl | 10 => rfl | n + 11 => rfl)
