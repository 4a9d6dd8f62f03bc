/-! the ground hears a report -/
set_option maxHeartbeats 4000000 in
set_option maxRecDepth 100000 in
theorem pG_pG (v : Vw) (G H : G3) : pG (pG v G) H = pG v H := rfl
set_option maxHeartbeats 4000000 in
set_option maxRecDepth 100000 in
theorem pG_id (v : Vw) : pG v (v.gv, v.gz, v.gi) = v := rfl
set_option maxHeartbeats 4000000 in
set_option maxRecDepth 100000 in
theorem pG_v (v : Vw) (G : G3) : (pG v G).gv = G.1 ∧ (pG v G).gz = G.2.1 ∧ (pG v G).gi = G.2.2 := ⟨rfl, rfl, rfl⟩
set_option maxHeartbeats 4000000 in
set_option maxRecDepth 100000 in
theorem sub_sub3 (a b c : Int32) : a - (b - c) = (a - b) + c := by
  rw [Int32.sub_eq_add_neg, Int32.neg_sub, Int32.sub_eq_add_neg c b, Int32.sub_eq_add_neg a b, Int32.add_assoc, Int32.add_comm c]
def arF (x3 X : Int32) (A : fl_M) : fl_M := if x3 = 0 then ((fl_i A 0 35 0)) else (if (A.1 0 30) ≤ 0 then (A) else (if 0 < X then (if X = 0 then (if (A.1 0 34) = 4 then ((g_MD_alert A 2)) else ((fl_i (fl_i (g_MD_markAll (fl_i A 0 34 ((A.1 0 34) + 1))) 0 35 1) 0 36 ((fl_i (g_MD_markAll (fl_i A 0 34 ((A.1 0 34) + 1))) 0 35 1).1 0 1)))) else ((fl_i (fl_i (g_MD_markAll (fl_i A 0 34 (A.1 0 34))) 0 35 1) 0 36 ((fl_i (g_MD_markAll (fl_i A 0 34 (A.1 0 34))) 0 35 1).1 0 1)))) else (if (A.1 0 35) = 0 then (if X = 0 then (if (A.1 0 34) = 4 then ((g_MD_alert A 2)) else ((fl_i (fl_i (g_MD_markAll (fl_i A 0 34 ((A.1 0 34) + 1))) 0 35 1) 0 36 ((fl_i (g_MD_markAll (fl_i A 0 34 ((A.1 0 34) + 1))) 0 35 1).1 0 1)))) else ((fl_i (fl_i (g_MD_markAll (fl_i A 0 34 (A.1 0 34))) 0 35 1) 0 36 ((fl_i (g_MD_markAll (fl_i A 0 34 (A.1 0 34))) 0 35 1).1 0 1)))) else (A))))
set_option maxHeartbeats 4000000 in
set_option maxRecDepth 100000 in
theorem ar_eq (M : fl_M) (x1 x2 x3 : Int32) : g_MD_activeReport M x1 x2 x3 = if x2 = 0 then (if ((x1 - ((M.1 0 29) - (M.1 0 30))) &&& 15) ≤ (M.1 0 30) then (if ((x1 - ((M.1 0 29) - (M.1 0 30))) &&& 15) ≤ 0 then arF x3 ((x1 - ((M.1 0 29) - (M.1 0 30))) &&& 15) (fl_i M 0 30 ((M.1 0 30) - ((x1 - ((M.1 0 29) - (M.1 0 30))) &&& 15))) else arF x3 ((x1 - ((M.1 0 29) - (M.1 0 30))) &&& 15) (fl_i (fl_i (fl_i M 0 30 ((M.1 0 30) - ((x1 - ((M.1 0 29) - (M.1 0 30))) &&& 15))) 0 34 1) 0 36 ((fl_i (fl_i M 0 30 ((M.1 0 30) - ((x1 - ((M.1 0 29) - (M.1 0 30))) &&& 15))) 0 34 1).1 0 1))) else ((g_MD_alert M 2))) else ((g_MD_alert M 1)) := rfl
def haF (x3 X : Int32) (f z : Nat → Int32) (g : Nat → Int64) : G3 := if x3 = 0 then (((upd f 10 0), z, g)) else (if (f 5) ≤ 0 then ((f, z, g)) else (if 0 < X then (if X ≤ 0 then ((((g_GF_recover f z g 0).1), ((g_GF_recover f z g 0).2.1), ((g_GF_recover f z g 0).2.2))) else ((((g_GF_recover f z g 1).1), ((g_GF_recover f z g 1).2.1), ((g_GF_recover f z g 1).2.2)))) else (if (f 10) = 0 then (if X ≤ 0 then ((((g_GF_recover f z g 0).1), ((g_GF_recover f z g 0).2.1), ((g_GF_recover f z g 0).2.2))) else ((((g_GF_recover f z g 1).1), ((g_GF_recover f z g 1).2.1), ((g_GF_recover f z g 1).2.2)))) else ((f, z, g)))))
set_option maxHeartbeats 4000000 in
set_option maxRecDepth 100000 in
theorem ha_eq (f z : Nat → Int32) (g : Nat → Int64) (x1 x2 x3 : Int32) : g_GF_hearActive f z g x1 x2 x3 = if x2 = 0 then (if (((x1 - (f 4)) + (f 5)) &&& 15) ≤ (f 5) then haF x3 (((x1 - (f 4)) + (f 5)) &&& 15) (g_GF_confirm f z g (((x1 - (f 4)) + (f 5)) &&& 15)).1 (g_GF_confirm f z g (((x1 - (f 4)) + (f 5)) &&& 15)).2.1 (g_GF_confirm f z g (((x1 - (f 4)) + (f 5)) &&& 15)).2.2 else ((((g_GF_alert f z g 2).1), ((g_GF_alert f z g 2).2.1), ((g_GF_alert f z g 2).2.2)))) else ((((g_GF_alert f z g 1).1), ((g_GF_alert f z g 1).2.1), ((g_GF_alert f z g 1).2.2))) := rfl
set_option maxHeartbeats 4000000 in
set_option maxRecDepth 100000 in
theorem le0_nI {c : Nat} (hc : c < 16) : (nI c ≤ 0) ↔ c = 0 := by
  have h := nI_leI (a := c) (b := 0) (by omega) (by omega)
  rw [nI_0] at h
  rw [h]; omega
set_option maxHeartbeats 4000000 in
set_option maxRecDepth 100000 in
theorem s_arF (A : fl_M) (W : Nat → Nat → Int32) (x3 : Int32) {c : Nat} (hc : c < 16) : V (arF x3 (nI c) A) W = pG (V A W) (haF x3 (nI c) (V A W).gv (V A W).gz (V A W).gi) := by
  have e5 : (V A W).gv 5 = A.1 0 30 := rfl
  have e6 : (V A W).gv 6 = A.1 0 34 := rfl
  have e10 : (V A W).gv 10 = A.1 0 35 := rfl
  have mk : ∀ B : fl_M, B.1 0 1 = A.1 0 1 → V (fl_i (fl_i (g_MD_markAll B) 0 35 1) 0 36 ((fl_i (g_MD_markAll B) 0 35 1).1 0 1)) W = pG (V B W) (upd (upd (g_GF_markAll (V B W).gv (V B W).gz (V B W).gi).1 10 1) 7 ((g_GF_markAll (V B W).gv (V B W).gz (V B W).gi).1 0), (g_GF_markAll (V B W).gv (V B W).gz (V B W).gi).2.1, (g_GF_markAll (V B W).gv (V B W).gz (V B W).gi).2.2) := by
    intro B hB
    (simp only [V_0_36, V_0_35, s_mark, mm_gv]) <;> dsimp only [m_tm, m_cn, m_fs, m_wf, m_wg, m_wb, m_gv, m_gz, m_gi, m_cv, m_st, m_sw, m_tv, m_tw, m_rv, m_rw, p_tm, p_cn, p_fs, p_wf, p_wg, p_wb, p_gv, p_gz, p_gi, p_cv, p_st, p_sw, p_tv, p_tw, p_rv, p_rw]
    unfold pG
    rw [(mark_f (V B W).gv (V B W).gz (V B W).gi).1, (mark_f (V B W).gv (V B W).gz (V B W).gi).2]
    have e : (fl_i (g_MD_markAll B) 0 35 1).1 0 1 = (V B W).gv 0 := by
      rw [fi_0 (by decide), mark_c B (by decide)]
      rfl
    rw [e]
  unfold arF haF
  rw [e5, e10]
  by_cases h3 : x3 = 0
  · rw [if_pos h3, if_pos h3]
    (simp only [V_0_35, mm_gv]) <;> dsimp only [m_tm, m_cn, m_fs, m_wf, m_wg, m_wb, m_gv, m_gz, m_gi, m_cv, m_st, m_sw, m_tv, m_tw, m_rv, m_rw, p_tm, p_cn, p_fs, p_wf, p_wg, p_wb, p_gv, p_gz, p_gi, p_cv, p_st, p_sw, p_tv, p_tw, p_rv, p_rw]
    rfl
  · rw [if_neg h3, if_neg h3]
    by_cases h4 : A.1 0 30 ≤ 0
    · rw [if_pos h4, if_pos h4]; rfl
    · rw [if_neg h4, if_neg h4]
      by_cases c0 : c = 0
      · subst c0
        have n1 : ¬ 0 < nI 0 := by decide
        have n2 : nI 0 ≤ 0 := by decide
        rw [if_neg n1, if_neg n1, if_pos n2, if_pos nI_0]
        by_cases h5 : A.1 0 35 = 0
        · rw [if_pos h5, if_pos h5]
          unfold g_GF_recover
          rw [if_pos (show (0 : Int32) = 0 from rfl), e6]
          by_cases h6 : A.1 0 34 = 4
          · rw [if_pos h6, if_pos h6, s_alert]
          · rw [if_neg h6, if_neg h6, mk _ (fi_0 (by decide)), V_0_34]
            rfl
        · rw [if_neg h5, if_neg h5]; rfl
      · have n1 : 0 < nI c := nI_lt (a := 0) (by omega) (by omega)
        have n2 : ¬ nI c ≤ 0 := fun h => c0 ((le0_nI hc).1 h)
        have n3 : ¬ nI c = 0 := nI_ne0 (by omega) (by omega)
        rw [if_pos n1, if_pos n1, if_neg n3, if_neg n2, fi_id rfl, mk A rfl]
        unfold g_GF_recover
        rw [if_neg (show ¬ (1 : Int32) = 0 by decide)]
set_option maxHeartbeats 4000000 in
set_option maxRecDepth 100000 in
theorem s_act (N : fl_M) (W : Nat → Nat → Int32) (x1 x2 x3 : Int32) : V (g_MD_activeReport N x1 x2 x3) W = pG (V N W) (g_GF_hearActive (V N W).gv (V N W).gz (V N W).gi x1 x2 x3) := by
  have e4 : (V N W).gv 4 = N.1 0 29 := rfl
  have e5 : (V N W).gv 5 = N.1 0 30 := rfl
  rw [ar_eq, ha_eq, e4, e5, sub_sub3]
  obtain ⟨c, hc, ec⟩ := pk_andE (x1 - N.1 0 29 + N.1 0 30) (m := 15) 4 rfl
  rw [ec]
  by_cases h2 : x2 = 0
  · rw [if_pos h2, if_pos h2]
    by_cases h3 : nI c ≤ N.1 0 30
    · rw [if_pos h3, if_pos h3]
      unfold g_GF_confirm
      by_cases h4 : nI c ≤ 0
      · rw [if_pos h4, if_pos h4, s_arF _ W x3 hc]
        have c0 := (le0_nI hc).1 h4
        subst c0
        have e : N.1 0 30 - nI 0 = N.1 0 30 := by rw [nI_0]; exact Int32.sub_zero _
        rw [e, fi_id rfl]
      · rw [if_neg h4, if_neg h4, s_arF _ W x3 hc]
        (simp only [V_0_30, V_0_34, V_0_36, mm_gv]) <;> dsimp only [m_tm, m_cn, m_fs, m_wf, m_wg, m_wb, m_gv, m_gz, m_gi, m_cv, m_st, m_sw, m_tv, m_tw, m_rv, m_rw, p_tm, p_cn, p_fs, p_wf, p_wg, p_wb, p_gv, p_gz, p_gi, p_cv, p_st, p_sw, p_tv, p_tw, p_rv, p_rw]
        rfl
    · rw [if_neg h3, if_neg h3, s_alert]
  · rw [if_neg h2, if_neg h2, s_alert]
set_option maxHeartbeats 4000000 in
set_option maxRecDepth 100000 in
/-- a report -/
theorem lbit (x : Int64) (m : Int64) : (lg_cmp (x &&& m) 0 = 0) ↔ x &&& m = 0 := cmp0
def bz (p : Prop) [Decidable p] : Int32 := if p then 0 else 1
set_option maxHeartbeats 4000000 in
set_option maxRecDepth 100000 in
theorem s_rep (N : fl_M) (W : Nat → Nat → Int32) (x : Int64) (h9 : b01 (N.1 0 33)) : V (g_MD_groundReport N x) W = pG (V N W) (g_GF_hear (V N W).gv (V N W).gz (V N W).gi (g_FL_fourBitsAt x 0) (bz (x &&& 16 = 0)) (bz (x &&& 32 = 0))) := by
  have e3 : (V N W).gv 3 = N.1 0 28 := rfl
  have e4 : (V N W).gv 4 = N.1 0 29 := rfl
  have e9 : (V N W).gv 9 = N.1 0 33 := rfl
  rw [fb_0]
  unfold g_MD_groundReport g_GF_hear bz
  rw [e3, e4]
  simp only [cmp0]
  generalize (x &&& 15).toInt32 = ex
  by_cases s0 : N.1 0 28 = 0
  · by_cases a : x &&& 16 = 0 <;> by_cases b : x &&& 32 = 0 <;> simp only [a, b, s0, if_true, if_false, s_act]
  · by_cases s1 : N.1 0 28 = 1
    · have n0 : ¬ (1 : Int32) = 0 := by decide
      by_cases a : x &&& 16 = 0
      · have hd : ∀ p : Prop, ∀ [Decidable p], (if p then (fl_i (fl_i N 0 33 1) 0 28 2) else (fl_i (fl_i N 0 33 1) 0 28 2)) = fl_i (fl_i N 0 33 1) 0 28 2 := fun p _ => ite_self _
        have hv : V (fl_i (fl_i N 0 33 1) 0 28 2) W = pG (V N W) (upd (upd (V N W).gv 3 2) 9 1, (V N W).gz, (V N W).gi) := by
          (simp only [V_0_28, V_0_33, mm_gv]) <;> dsimp only [m_tm, m_cn, m_fs, m_wf, m_wg, m_wb, m_gv, m_gz, m_gi, m_cv, m_st, m_sw, m_tv, m_tw, m_rv, m_rw, p_tm, p_cn, p_fs, p_wf, p_wg, p_wb, p_gv, p_gz, p_gi, p_cv, p_st, p_sw, p_tv, p_tw, p_rv, p_rw]
          unfold pG
          rw [show upd (upd (V N W).gv 9 1) 3 2 = upd (upd (V N W).gv 3 2) 9 1 from (funext fun i => match i with | 0 => rfl | 1 => rfl | 2 => rfl | 3 => rfl | 4 => rfl | 5 => rfl | 6 => rfl | 7 => rfl | 8 => rfl | 9 => rfl | 10 => rfl | n + 11 => rfl)]
        by_cases b : x &&& 32 = 0 <;> simp only [a, b, s1, n0, if_true, if_false, ite_self, hv] <;> rfl
      · have hv : ∀ d, N.1 0 33 = d → V (fl_i (fl_i N 0 33 d) 0 28 1) W = V N W := by
          intro d hd
          rw [fi_id hd, fi_id s1]
        rcases h9 with h9 | h9
        · by_cases b : x &&& 32 = 0 <;> simp only [a, b, s1, n0, h9, if_true, if_false, hv 0 h9] <;> exact (pG_id _).symm
        · by_cases b : x &&& 32 = 0 <;> simp only [a, b, s1, n0, h9, if_true, if_false, hv 1 h9] <;> exact (pG_id _).symm
    · have hv : V (fl_i (fl_i N 0 28 1) 0 33 1) W = pG (V N W) (upd (upd (V N W).gv 3 1) 9 1, (V N W).gz, (V N W).gi) := by
        (simp only [V_0_28, V_0_33, mm_gv]) <;> dsimp only [m_tm, m_cn, m_fs, m_wf, m_wg, m_wb, m_gv, m_gz, m_gi, m_cv, m_st, m_sw, m_tv, m_tw, m_rv, m_rw, p_tm, p_cn, p_fs, p_wf, p_wg, p_wb, p_gv, p_gz, p_gi, p_cv, p_st, p_sw, p_tv, p_tw, p_rv, p_rw]
        rfl
      have hw : V (fl_i (fl_i N 0 28 0) 0 33 0) W = pG (V N W) (upd (upd (V N W).gv 3 0) 9 0, (V N W).gz, (V N W).gi) := by
        (simp only [V_0_28, V_0_33, mm_gv]) <;> dsimp only [m_tm, m_cn, m_fs, m_wf, m_wg, m_wb, m_gv, m_gz, m_gi, m_cv, m_st, m_sw, m_tv, m_tw, m_rv, m_rw, p_tm, p_cn, p_fs, p_wf, p_wg, p_wb, p_gv, p_gz, p_gi, p_cv, p_st, p_sw, p_tv, p_tw, p_rv, p_rw]
        rfl
      have n0 : ¬ (1 : Int32) = 0 := by decide
      by_cases a : x &&& 16 = 0
      · by_cases b : x &&& 32 = 0
        · by_cases c : ex = N.1 0 29
          · simp only [a, b, s0, s1, c, if_true, if_false, hw]
          · simp only [a, b, s0, s1, c, if_true, if_false]; exact (pG_id _).symm
        · by_cases c : ex = N.1 0 29
          · simp only [a, b, s0, s1, c, n0, if_true, if_false]; exact (pG_id _).symm
          · simp only [a, b, s0, s1, c, n0, if_true, if_false]; exact (pG_id _).symm
      · by_cases b : x &&& 32 = 0 <;> simp only [a, b, s0, s1, n0, if_true, if_false, hv] <;> rfl
