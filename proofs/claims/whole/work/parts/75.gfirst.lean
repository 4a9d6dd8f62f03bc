/-! what is due first -/
set_option maxHeartbeats 4000000 in
set_option maxRecDepth 100000 in
theorem pd_head : ∀ k, k < 6 → ∀ t, t < 16 → ∀ p, p < 17 → j_lshl (((j_lshl (nI k).toInt64 12) ||| (j_lshl ((nI t).toInt64) 8)) ||| (nI p).toInt64) 32 = ((j_lshl (nI p).toInt64 32) ||| (j_lshl (nI t).toInt64 40)) ||| (j_lshl (nI k).toInt64 44) := by decide +kernel
set_option maxHeartbeats 4000000 in
set_option maxRecDepth 100000 in
theorem pd_nn : ∀ k, k < 6 → ∀ t, t < 16 → ∀ p, p < 17 → (((j_lshl (nI p).toInt64 32) ||| (j_lshl (nI t).toInt64 40)) ||| (j_lshl (nI k).toInt64 44)).toBitVec.msb = false := by decide +kernel
set_option maxHeartbeats 4000000 in
set_option maxRecDepth 100000 in
theorem pdI_eq (w p t k : Int32) : pdI w p t k = (w.toInt64 &&& 4294967295) ||| (((j_lshl p.toInt64 32) ||| (j_lshl t.toInt64 40)) ||| (j_lshl k.toInt64 44)) := by
  unfold pdI
  rw [Int64.or_assoc, Int64.or_assoc, Int64.or_assoc]
set_option maxHeartbeats 4000000 in
set_option maxRecDepth 100000 in
theorem pdu_eq {f w : Nat → Int32} {t k p : Nat} (hk : k < 6) (ht : t < 16) (hp : p < 17) (h0 : f 0 = nI t) (x : Int32) : g_TR_pdu f w (nI k) (nI p) x = pdI x (nI p) (nI t) (nI k) ∧ ¬ g_TR_pdu f w (nI k) (nI p) x < 0 := by
  have e : g_TR_pdu f w (nI k) (nI p) x = pdI x (nI p) (nI t) (nI k) := by
    unfold g_TR_pdu
    rw [h0, pd_head k hk t ht p hp, pdI_eq, Int64.or_comm]
  refine ⟨e, ?_⟩
  · rw [e, pdI_eq, lneg, Int64.toBitVec_or, BitVec.msb_or, pd_nn k hk t ht p hp, Int64.toBitVec_and, BitVec.msb_and]
    rw [show (4294967295 : Int64).toBitVec.msb = false by decide, Bool.and_false]
    decide
set_option maxHeartbeats 4000000 in
set_option maxRecDepth 100000 in
theorem lwd_L (d : Int32) (f w : Nat → Int32) (hf : f 6 = d) : ∀ k i, i + k = 16 → ∃ j, i ≤ j ∧ j ≤ 16 ∧ g_TR_leastWordDue_L2 f w k i = nI j ∧ (j < 16 → d &&& ((1 : Int32) <<< (nI j &&& 31)) ≠ 0) ∧ g_MD_firstDue_L26 d (k + 1) i = if j < 16 then nI j else g_MD_firstDue_L26 d 1 16 := by
  intro k
  induction k with
  | zero =>
    intro i hi
    have : i = 16 := by omega
    subst this
    exact ⟨16, Nat.le_refl _, Nat.le_refl _, rfl, fun h => absurd h (by omega), by rw [if_neg (by omega)]⟩
  | succ k ih =>
    intro i hi
    have hb := ishr_bit d (k := i) (by omega)
    unfold g_TR_leastWordDue_L2 g_MD_firstDue_L26
    rw [hf]
    by_cases h : d &&& ((1 : Int32) <<< (nI i &&& 31)) = 0
    · rw [if_pos h, if_pos (hb.2 h)]
      obtain ⟨j, h1, h2, h3, h4, h5⟩ := ih (i + 1) (by omega)
      exact ⟨j, by omega, h2, h3, h4, h5⟩
    · rw [if_neg h, if_neg (fun c => h (hb.1 c))]
      exact ⟨i, Nat.le_refl _, by omega, rfl, fun _ => h, by rw [if_pos (by omega)]⟩
set_option maxHeartbeats 4000000 in
set_option maxRecDepth 100000 in
theorem ck_L (N : fl_M) (w : Nat → Int32) {t : Nat} (ht : t < 16) {n : Nat} (hn : n ≤ 16) (hw : ∀ k, k < n → w k = N.1 9 (16 * t + k)) : ∀ k i s, i + k = 16 → i ≤ n → g_FL_sumBelow_L4 w (nI n) k i s = g_MD_checksum_L4 N (nI t) (n - i) i s := by
  intro k
  induction k with
  | zero =>
    intro i s hk hi
    have : n - i = 0 := by omega
    rw [this]
    show (if nI n ≤ nI i then s else s) = s
    split <;> rfl
  | succ k ih =>
    intro i s hk hi
    show (if nI n ≤ nI i then s else g_FL_sumBelow_L4 w (nI n) k (i + 1) (s + w (nI i).toNatClampNeg)) = _
    by_cases h : n ≤ i
    · rw [if_pos ((nI_leI (by omega) (by omega)).2 h)]
      have : n - i = 0 := by omega
      rw [this]; rfl
    · rw [if_neg (fun c => h ((nI_leI (by omega) (by omega)).1 c)), ih _ _ (by omega) (by omega), nI_clamp (show i < 2 ^ 31 by omega)]
      have e : n - i = (n - (i + 1)) + 1 := by omega
      rw [e]
      show _ = g_MD_checksum_L4 N (nI t) (n - (i + 1)) (i + 1) (s + N.1 9 (16 * nI t + nI i).toNatClampNeg)
      rw [ix16 ht (by omega), hw i (by omega)]
set_option maxHeartbeats 4000000 in
set_option maxRecDepth 100000 in
theorem ck_eq (N A : fl_M) (w : Nat → Int32) {t : Nat} (ht : t < 16) {n : Nat} (hn : n ≤ 16) (hw : ∀ k, k < n → w k = N.1 9 (16 * t + k)) (h9 : A.1 9 = N.1 9) (h10 : A.1 10 t = nI n) : g_MD_checksum A (nI t) = g_FL_sumBelow w (nI n) := by
  unfold g_MD_checksum g_FL_sumBelow
  rw [clN ht, h10, nI_clamp (by omega)]
  exact (ck_L A w ht hn (fun k hk => by rw [h9]; exact hw k hk) 16 0 0 rfl (Nat.zero_le _)).symm
set_option maxHeartbeats 4000000 in
set_option maxRecDepth 100000 in
/-- a part of what is due, due no more -/
theorem and_b {d m : Int32} {k : Nat} (hb : (d &&& m) &&& ((1 : Int32) <<< (nI k &&& 31)) ≠ 0) : d &&& ((1 : Int32) <<< (nI k &&& 31)) ≠ 0 := by
  intro c
  apply hb
  rw [Int32.and_assoc, Int32.and_comm m, ← Int32.and_assoc, c, Int32.zero_and]
set_option maxHeartbeats 4000000 in
set_option maxRecDepth 100000 in
theorem tp_less {f w y : Nat → Int32} {es m : Int32} {P : Prop} (hm : m &&& 131072 = 131072) (h : TP f es w y P) : TP (upd f 6 (f 6 &&& m)) es w y P := by
  obtain ⟨⟨n, h1, h2, h3, h4⟩, h5, h6⟩ := h
  have ee : (f 6 &&& m) &&& 131072 = f 6 &&& 131072 := by rw [Int32.and_assoc, hm]
  refine ⟨⟨n, h1, h2, fun k hk hb => h3 k hk (and_b (m := m) hb), h4⟩, h5, fun a b => ?_⟩
  show (es ≠ 0 ↔ (f 6 &&& m) &&& 131072 = 0) ∧ _
  rw [ee]
  exact h6 a b
set_option maxHeartbeats 4000000 in
set_option maxRecDepth 100000 in
theorem tp_eof {f w y : Nat → Int32} {es v : Int32} {P : Prop} (hP : P) (hv : 0 < v) (h : TP f es w y P) : TP (upd (upd f 6 (f 6 &&& (-131073))) 8 v) 1 w y P := by
  obtain ⟨⟨n, h1, h2, h3, h4⟩, h5, h6⟩ := h
  have ee : (f 6 &&& (-131073)) &&& 131072 = 0 := by rw [Int32.and_assoc, show (-131073 : Int32) &&& 131072 = 0 by decide, Int32.and_zero]
  exact ⟨⟨n, h1, h2, fun k hk hb => h3 k hk (and_b (m := -131073) hb), h4⟩, fun c => absurd hP c, fun _ _ => ⟨⟨fun _ => ee, fun _ => by decide⟩, fun _ => hv⟩⟩
set_option maxHeartbeats 4000000 in
set_option maxRecDepth 100000 in
theorem lb17 : ∀ k, k < 16 → (((1 : Int32) <<< (nI k &&& 31)) ^^^ (-1)) &&& 131072 = 131072 := by decide +kernel
set_option maxHeartbeats 4000000 in
set_option maxRecDepth 100000 in
theorem sd_A (N : fl_M) (W : Nat → Nat → Int32) {t c : Nat} (ht : t < 16) (htc : t < c) (h : TI N W c) {d : Nat} (h1 : 1 ≤ d) (h5 : d ≤ 5) (hsp : N.1 0 1 = nI (2 * d + 6)) :
    ∃ A, g_MD_sendDue N (nI t) = sdF A (A.1 0 29) (A.1 12 t) (g_TR_nextPdu ((V N W).tv t) ((V N W).tw t)).1 ∧ V A W = (mkV (V N W).tm (V N W).cn (V N W).fs (V N W).wf (V N W).wg (V N W).wb (V N W).gv (V N W).gz (V N W).gi (V N W).cv (V N W).st (V N W).sw (va_up (V N W).tv t (g_TR_nextPdu ((V N W).tv t) ((V N W).tw t)).2.1) (V N W).tw (V N W).rv (V N W).rw) ∧ (g_TR_nextPdu ((V N W).tv t) ((V N W).tw t)).2.2 = (V N W).tw t ∧ TI A W c ∧ Fr N A ∧ A.1 0 = N.1 0 ∧ A.1 4 = N.1 4 ∧ ¬ (g_TR_nextPdu ((V N W).tv t) ((V N W).tw t)).1 < 0 := by
  have hp := h t ht
  obtain ⟨⟨n, hn, e10, hb, hww⟩, q2, q3⟩ := hp
  have e10 : N.1 10 t = nI n := e10
  have e0 : (V N W).tv t 0 = nI t := rfl
  have e1 : (V N W).tv t 1 = N.1 0 1 := rfl
  have e3 : (V N W).tv t 3 = N.1 10 t := rfl
  have e4 : (V N W).tv t 4 = N.1 11 t := rfl
  have e6 : (V N W).tv t 6 = N.1 15 t := rfl
  have e12 : (V N W).tv t 12 = N.1 16 t := rfl
  have fresh : ∀ x : Int32, Fr N (fl_i N 15 t x) ∧ (fl_i N 15 t x).1 0 = N.1 0 ∧ (fl_i N 15 t x).1 4 = N.1 4 := fun x => ⟨⟨rfl, rfl, rfl⟩, rfl, rfl⟩
  rw [sd_eq]
  unfold g_TR_nextPdu g_MD_firstDue sdA g_MD_firstDue
  rw [clN ht, e6, e12, e3, e4, e1]
  have b18 := bit18 (N.1 15 t)
  have b16 := bit16 (N.1 15 t)
  by_cases c18 : N.1 15 t &&& 262144 = 0
  · rw [if_pos c18]
    simp only [if_pos (b18.2 c18)]
    by_cases c16 : N.1 15 t &&& 65536 = 0
    · rw [if_pos c16]
      simp only [if_pos (b16.2 c16)]
      obtain ⟨j, _, j1, j2, j3, j4⟩ := lwd_L (N.1 15 t) ((V N W).tv t) ((V N W).tw t) e6 16 0 rfl
      have el : g_TR_leastWordDue ((V N W).tv t) ((V N W).tw t) = nI j := j2
      have e17 : g_MD_firstDue_L26 (N.1 15 t) 1 16 = nI 17 := by
        unfold g_MD_firstDue_L26
        rw [if_pos (show (j_ishr (N.1 15 t) (nI 16)) &&& 1 = 0 from b16.2 c16)]
        rfl
      rw [e17] at j4
      rw [el, j4]
      by_cases hj : j < 16
      · have n16 : ¬ (16 : Int32) ≤ nI j := nI_ge (b := 16) hj (by omega)
        have m17 : ¬ nI j = 17 := fun c' => by have := (nI_eq (a := j) (b := 17) (by omega) (by omega)).1 c'; omega
        have m18 : ¬ nI j = 18 := fun c' => by have := (nI_eq (a := j) (b := 18) (by omega) (by omega)).1 c'; omega
        have m16 : ¬ nI j = 16 := fun c' => by have := (nI_eq (a := j) (b := 16) (by omega) (by omega)).1 c'; omega
        simp only [if_pos hj, if_neg n16, if_neg m17, if_neg m18, if_neg m16]
        have hjn := hb j hj (j3 hj)
        have ew : (V N W).tw t j = N.1 9 (16 * t + j) := hww j hjn
        rw [ix16 ht hj, nI_clamp (show j < 2 ^ 31 by omega), ew]
        obtain ⟨p1, p2⟩ := pdu_eq (w := (V N W).tw t) (k := 2) (p := j) (f := upd ((V N W).tv t) 6 (N.1 15 t &&& (((1 : Int32) <<< (nI j &&& 31)) ^^^ (-1)))) (by decide) ht (by omega) (show upd ((V N W).tv t) 6 _ 0 = nI t from rfl) (N.1 9 (16 * t + j))
        refine ⟨fl_i N 15 t (N.1 15 t &&& (((1 : Int32) <<< (nI j &&& 31)) ^^^ (-1))), ?_, V_15 N W t _, by trivial, ?_, (fresh _).1, (fresh _).2.1, (fresh _).2.2, ?_⟩
        · exact congrArg (sdF _ _ _) p1.symm
        · exact ti_up h (f := upd ((V N W).tv t) 6 (N.1 15 t &&& (((1 : Int32) <<< (nI j &&& 31)) ^^^ (-1)))) (congrArg Vw.tv (V_15 N W t _)) rfl (fun _ _ => rfl) (tp_less (lb17 j hj) (h t ht))
        · exact p2
      · have hj : j = 16 := by omega
        subst hj
        have n17 : ¬ (16 : Nat) < 16 := by omega
        simp only [if_neg n17]
        rw [if_pos (show (16 : Int32) ≤ nI 16 from by decide), if_pos (show nI 17 = 17 from rfl)]
        have sp : 0 < 3 * N.1 0 1 := by
          rw [hsp]
          have hd : ∀ d, d ≤ 5 → 0 < 3 * nI (2 * d + 6) := by
            intro d hd
            have : ∀ d, d < 6 → 0 < 3 * nI (2 * d + 6) := by decide +kernel
            exact this d (by omega)
          exact hd d h5
        have eA : N.1 15 t &&& (((1 : Int32) <<< (nI 17 &&& 31)) ^^^ (-1)) = N.1 15 t &&& (-131073) := by
          rw [show ((1 : Int32) <<< (nI 17 &&& 31)) ^^^ (-1) = -131073 by decide]
        rw [eA]
        have tiE : TI (fl_i (fl_i (fl_i N 15 t (N.1 15 t &&& (-131073))) 19 t 1) 21 t (3 * N.1 0 1)) W c := by
          refine ti_up h (t := t) (f := upd (upd ((V N W).tv t) 6 (N.1 15 t &&& (-131073))) 8 (3 * N.1 0 1)) ?_ rfl (fun s hs => (congrFun (fi_at (N := fl_i N 15 t (N.1 15 t &&& (-131073))) (c := 19) (j := t) (x := 1)) s).trans (pk_un hs)) ?_
          · have ev : V (fl_i (fl_i (fl_i N 15 t (N.1 15 t &&& (-131073))) 19 t 1) 21 t (3 * N.1 0 1)) W = (mkV (V N W).tm (V N W).cn (V N W).fs (V N W).wf (V N W).wg (V N W).wb (V N W).gv (V N W).gz (V N W).gi (V N W).cv (V N W).st (V N W).sw (va_up (V N W).tv t (upd (upd ((V N W).tv t) 6 (N.1 15 t &&& (-131073))) 8 (3 * N.1 0 1))) (V N W).tw (V N W).rv (V N W).rw) := by
              (simp only [V_21, V_19, V_15, va_up_up, va_up_self, mm_tv]) <;> dsimp only [m_tm, m_cn, m_fs, m_wf, m_wg, m_wb, m_gv, m_gz, m_gi, m_cv, m_st, m_sw, m_tv, m_tw, m_rv, m_rw, p_tm, p_cn, p_fs, p_wf, p_wg, p_wb, p_gv, p_gz, p_gi, p_cv, p_st, p_sw, p_tv, p_tw, p_rv, p_rw]
            rw [ev]; rfl
          · have e19 : (fl_i (fl_i (fl_i N 15 t (N.1 15 t &&& (-131073))) 19 t 1) 21 t (3 * N.1 0 1)).1 19 t = 1 := (fi_n (by decide)).trans fi_s
            rw [e19]
            exact tp_eof htc sp (h t ht)
        have evE : V (fl_i (fl_i (fl_i N 15 t (N.1 15 t &&& (-131073))) 19 t 1) 21 t (3 * N.1 0 1)) W = (mkV (V N W).tm (V N W).cn (V N W).fs (V N W).wf (V N W).wg (V N W).wb (V N W).gv (V N W).gz (V N W).gi (V N W).cv (V N W).st (V N W).sw (va_up (V N W).tv t (upd (upd ((V N W).tv t) 6 (N.1 15 t &&& (-131073))) 8 (3 * N.1 0 1))) (V N W).tw (V N W).rv (V N W).rw) := by
          (simp only [V_21, V_19, V_15, va_up_up, va_up_self, mm_tv]) <;> dsimp only [m_tm, m_cn, m_fs, m_wf, m_wg, m_wb, m_gv, m_gz, m_gi, m_cv, m_st, m_sw, m_tv, m_tw, m_rv, m_rw, p_tm, p_cn, p_fs, p_wf, p_wg, p_wb, p_gv, p_gz, p_gi, p_cv, p_st, p_sw, p_tv, p_tw, p_rv, p_rw]
        by_cases cc : N.1 16 t = 0
        · rw [if_pos cc, if_pos cc]
          have ck := ck_eq N (fl_i N 15 t (N.1 15 t &&& (-131073))) ((V N W).tw t) ht hn hww rfl e10
          obtain ⟨p1, p2⟩ := pdu_eq (w := (V N W).tw t) (k := 3) (p := n) (f := upd (upd ((V N W).tv t) 6 (N.1 15 t &&& (-131073))) 8 (3 * N.1 0 1)) (by decide) ht (by omega) (show upd (upd ((V N W).tv t) 6 _) 8 _ 0 = nI t from rfl) (g_FL_sumBelow ((V N W).tw t) (nI n))
          refine ⟨_, ?_, evE, by trivial, tiE, ⟨rfl, rfl, rfl⟩, rfl, rfl, ?_⟩
          · rw [ck, e10]
            exact congrArg (sdF _ _ _) p1.symm
          · rw [e10]; exact p2
        · rw [if_neg cc, if_neg cc]
          obtain ⟨p1, p2⟩ := pdu_eq (w := (V N W).tw t) (k := 4) (p := 0) (f := upd (upd ((V N W).tv t) 6 (N.1 15 t &&& (-131073))) 8 (3 * N.1 0 1)) (by decide) ht (by omega) (show upd (upd ((V N W).tv t) 6 _) 8 _ 0 = nI t from rfl) 0
          refine ⟨_, ?_, evE, by trivial, tiE, ⟨rfl, rfl, rfl⟩, rfl, rfl, ?_⟩
          · exact congrArg (sdF _ _ _) p1.symm
          · exact p2
    · rw [if_neg c16]
      simp only [if_neg (fun c' => c16 (b16.1 c'))]
      rw [if_neg (show ¬ (16 : Int32) = 17 by decide), if_neg (show ¬ (16 : Int32) = 18 by decide), if_pos trivial]
      have eA : N.1 15 t &&& (((1 : Int32) <<< ((16 : Int32) &&& 31)) ^^^ (-1)) = N.1 15 t &&& (-65537) := by
        rw [show ((1 : Int32) <<< ((16 : Int32) &&& 31)) ^^^ (-1) = -65537 by decide]
      rw [eA]
      obtain ⟨p1, p2⟩ := pdu_eq (w := (V N W).tw t) (k := 1) (p := n) (f := upd ((V N W).tv t) 6 (N.1 15 t &&& (-65537))) (by decide) ht (by omega) (show upd ((V N W).tv t) 6 _ 0 = nI t from rfl) (N.1 11 t)
      refine ⟨fl_i N 15 t (N.1 15 t &&& (-65537)), ?_, V_15 N W t _, by trivial, ?_, (fresh _).1, (fresh _).2.1, (fresh _).2.2, ?_⟩
      · rw [e10]
        exact congrArg (sdF _ _ _) p1.symm
      · exact ti_up h (f := upd ((V N W).tv t) 6 (N.1 15 t &&& (-65537))) (congrArg Vw.tv (V_15 N W t _)) rfl (fun _ _ => rfl) (tp_less (by decide) (h t ht))
      · rw [e10]; exact p2
  · rw [if_neg c18]
    simp only [if_neg (fun c' => c18 (b18.1 c'))]
    rw [if_neg (show ¬ (18 : Int32) = 17 by decide), if_pos trivial]
    have eA : N.1 15 t &&& (((1 : Int32) <<< ((18 : Int32) &&& 31)) ^^^ (-1)) = N.1 15 t &&& (-262145) := by
      rw [show ((1 : Int32) <<< ((18 : Int32) &&& 31)) ^^^ (-1) = -262145 by decide]
    rw [eA]
    obtain ⟨p1, p2⟩ := pdu_eq (w := (V N W).tw t) (k := 5) (p := 0) (f := upd ((V N W).tv t) 6 (N.1 15 t &&& (-262145))) (by decide) ht (by omega) (show upd ((V N W).tv t) 6 _ 0 = nI t from rfl) 0
    refine ⟨fl_i N 15 t (N.1 15 t &&& (-262145)), ?_, V_15 N W t _, by trivial, ?_, (fresh _).1, (fresh _).2.1, (fresh _).2.2, ?_⟩
    · exact congrArg (sdF _ _ _) p1.symm
    · exact ti_up h (f := upd ((V N W).tv t) 6 (N.1 15 t &&& (-262145))) (congrArg Vw.tv (V_15 N W t _)) rfl (fun _ _ => rfl) (tp_less (by decide) (h t ht))
    · exact p2
