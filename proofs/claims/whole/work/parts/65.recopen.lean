/-! records: a PDU is heard while open -/
abbrev T3 : Type := Int32 × (Nat → Int32) × (Nat → Int32)
def hoF (k : Int32) (T : T3) : T3 := if T.1 = 0 then (0, T.2.1, T.2.2) else (if g_CR_lackingParts T.2.1 T.2.2 = 0 then (if T.2.1 5 = T.2.1 7 ∧ g_FL_sumBelow T.2.2 (T.2.1 7) = T.2.1 8 then (1, (g_CR_endWith T.2.1 T.2.2 1).1, (g_CR_endWith T.2.1 T.2.2 1).2) else (0, (g_CR_endWith T.2.1 T.2.2 2).1, (g_CR_endWith T.2.1 T.2.2 2).2)) else (if k = 3 then (0, (g_CR_askForParts (upd T.2.1 11 1) T.2.2).1, (g_CR_askForParts (upd T.2.1 11 1) T.2.2).2) else (0, T.2.1, T.2.2)))
set_option maxHeartbeats 4000000 in
set_option maxRecDepth 100000 in
theorem if_and {α : Type} {a b : Prop} [Decidable a] [Decidable b] {x y : α} : (if a then (if b then x else y) else y) = if a ∧ b then x else y := by
  by_cases h : a
  · by_cases h2 : b
    · rw [if_pos h, if_pos h2, if_pos ⟨h, h2⟩]
    · rw [if_pos h, if_neg h2, if_neg (fun c => h2 c.2)]
  · rw [if_neg h, if_neg (fun c => h c.1)]
set_option maxHeartbeats 4000000 in
set_option maxRecDepth 100000 in
theorem ho_1 (f w : Nat → Int32) (p x : Int32) : g_CR_hearOpen f w 1 p x = hoF 1 (g_CR_takeMetadata (upd f 9 (12 * f 0)) w p x) := by
  unfold g_CR_hearOpen hoF
  rw [if_neg (by decide), if_pos rfl]
  generalize g_CR_takeMetadata (upd f 9 (12 * f 0)) w p x = T
  rw [if_and, if_neg (show ¬ (1 : Int32) = 3 by decide)]
set_option maxHeartbeats 4000000 in
set_option maxRecDepth 100000 in
theorem ho_2 (f w : Nat → Int32) (p x : Int32) : g_CR_hearOpen f w 2 p x = hoF 2 (g_CR_takeData (upd f 9 (12 * f 0)) w p x) := by
  unfold g_CR_hearOpen hoF
  rw [if_neg (by decide), if_neg (by decide), if_pos rfl]
  generalize g_CR_takeData (upd f 9 (12 * f 0)) w p x = T
  rw [if_and, if_neg (show ¬ (2 : Int32) = 3 by decide)]
set_option maxHeartbeats 4000000 in
set_option maxRecDepth 100000 in
theorem ho_3 (f w : Nat → Int32) (p x : Int32) : g_CR_hearOpen f w 3 p x = hoF 3 (g_CR_takeEof (upd f 9 (12 * f 0)) w p x) := by
  unfold g_CR_hearOpen hoF
  rw [if_neg (by decide), if_neg (by decide), if_neg (by decide), if_pos rfl]
  generalize g_CR_takeEof (upd f 9 (12 * f 0)) w p x = T
  rw [if_and, if_pos (show (3 : Int32) = 3 from rfl)]
/-- the class's state after a PDU -/
def aft (v : Vw) (t : Nat) (T : T3) : fl_M := if T.1 = 0 then XX (mkV v.tm v.cn v.fs v.wf v.wg v.wb v.gv v.gz v.gi v.cv v.st v.sw v.tv v.tw (va_up v.rv t T.2.1) (va_up v.rw t T.2.2)) else g_CT_keep (56 + 2 * t) (XX (mkV v.tm v.cn v.fs v.wf v.wg v.wb v.gv v.gz v.gi v.cv v.st v.sw v.tv v.tw (va_up v.rv t T.2.1) (va_up v.rw t T.2.2)))
set_option maxHeartbeats 4000000 in
set_option maxRecDepth 100000 in
theorem ho_v (N' : fl_M) (W : Nat → Nat → Int32) {t : Nat} (ht : t < 16) (k : Int32) (tk : Int32 × fl_M) (T : T3) (h1 : tk.1 = T.1) (h2 : V tk.2 W = (mkV (V N' W).tm (V N' W).cn (V N' W).fs (V N' W).wf (V N' W).wg (V N' W).wb (V N' W).gv (V N' W).gz (V N' W).gi (V N' W).cv (V N' W).st (V N' W).sw (V N' W).tv (V N' W).tw (va_up (V N' W).rv t T.2.1) (va_up (V N' W).rw t T.2.2))) (hr : RI T.2.1) (hl : nn (T.2.1 7)) (h16 : (T.2.1 7).toNatClampNeg ≤ 16) (h3 : k = 3 → ¬ T.1 = 0 → T.2.1 4 &&& 131072 ≠ 0) :
    XX (V (if tk.1 = 0 then tk.2 else g_MD_whole tk.2 (nI t) k) W) = aft (V N' W) t (hoF k T) := by
  unfold aft hoF
  rw [h1]
  by_cases c0 : T.1 = 0
  · rw [if_pos c0, if_pos c0, h2]; rfl
  · rw [if_neg c0, if_neg c0]
    have er : (V tk.2 W).rv t = T.2.1 := by rw [h2]; exact va_up_self _ _ _
    have ew : (V tk.2 W).rw t = T.2.2 := by rw [h2]; exact va_up_self _ _ _
    have e31 : tk.2.1 31 t = T.2.1 7 := congrFun er 7
    have eX : ∀ A : Nat → Int32, ((mkV (V tk.2 W).tm (V tk.2 W).cn (V tk.2 W).fs (V tk.2 W).wf (V tk.2 W).wg (V tk.2 W).wb (V tk.2 W).gv (V tk.2 W).gz (V tk.2 W).gi (V tk.2 W).cv (V tk.2 W).st (V tk.2 W).sw (V tk.2 W).tv (V tk.2 W).tw (va_up (V tk.2 W).rv t A) (V tk.2 W).rw) : Vw) = (mkV (V N' W).tm (V N' W).cn (V N' W).fs (V N' W).wf (V N' W).wg (V N' W).wb (V N' W).gv (V N' W).gz (V N' W).gi (V N' W).cv (V N' W).st (V N' W).sw (V N' W).tv (V N' W).tw (va_up (V N' W).rv t A) (va_up (V N' W).rw t T.2.2)) := by
      intro A
      rw [h2]
      dsimp only [m_tm, m_cn, m_fs, m_wf, m_wg, m_wb, m_gv, m_gz, m_gi, m_cv, m_st, m_sw, m_tv, m_tw, m_rv, m_rw, p_tm, p_cn, p_fs, p_wf, p_wg, p_wb, p_gv, p_gz, p_gi, p_cv, p_st, p_sw, p_tv, p_tw, p_rv, p_rw]
      rw [va_up_up]
    rw [wh_v tk.2 W ht k (by rw [er]; exact hr) (by rw [e31]; exact hl) (by rw [e31]; exact h16), er, ew, eX, eX, eX, h2]
    by_cases c1 : g_CR_lackingParts T.2.1 T.2.2 = 0
    · rw [if_pos c1, if_pos c1]
      by_cases c2 : T.2.1 5 = T.2.1 7 ∧ g_FL_sumBelow T.2.2 (T.2.1 7) = T.2.1 8
      · rw [if_pos c2, if_pos c2]
        rw [if_neg (show ¬ (1 : Int32) = 0 by decide)]; rfl
      · rw [if_neg c2, if_neg c2]
        rw [if_pos rfl]; rfl
    · rw [if_neg c1, if_neg c1]
      by_cases c2 : k = 3
      · rw [if_pos ⟨c2, h3 c2 c0⟩, if_pos c2]
        rw [if_pos rfl]; rfl
      · rw [if_neg (fun c => c2 c.1), if_neg c2]
        rw [if_pos rfl]
