/-! the craft's frames, and what they give on -/
set_option maxHeartbeats 4000000 in
set_option maxRecDepth 100000 in
theorem pdu_n (N : fl_M) (t p x k : Int32) (h : k < 1 ∨ 5 < k) : yPdu N k t p x = N := by
  unfold yPdu
  rcases h with h | h
  · rw [if_pos h]
  · by_cases h1 : k < 1
    · rw [if_pos h1]
    · rw [if_neg h1, if_pos h]
set_option maxHeartbeats 4000000 in
set_option maxRecDepth 100000 in
theorem hear_n (f w : Nat → Int32) (p x k : Int32) (h : k < 1 ∨ 5 < k) : g_CR_hear f w k p x = (0, f, w) := by
  have e : g_CR_looksAt f w k = 0 := by
    unfold g_CR_looksAt
    by_cases h1 : k < 1
    · rw [if_pos h1]
      split
      · rfl
      · rfl
    · have h : 5 < k := h.resolve_left h1
      have h4 : 4 < k := by
        rw [Int32.lt_iff_toInt_lt] at h ⊢
        have a : (5 : Int32).toInt = 5 := rfl
        have b : (4 : Int32).toInt = 4 := rfl
        omega
      rw [if_neg h1, if_pos h4, if_pos h]
      split
      · rfl
      · rfl
  unfold g_CR_hear
  rw [if_pos e]
set_option maxHeartbeats 4000000 in
set_option maxRecDepth 100000 in
theorem k_case : ∀ k, k < 16 → (nI k < 1 ∨ 5 < nI k) ∨ k = 1 ∨ k = 2 ∨ k = 3 ∨ k = 4 ∨ k = 5 := by decide +kernel
set_option maxHeartbeats 4000000 in
set_option maxRecDepth 100000 in
theorem pdu_v (N : fl_M) (W : Nat → Nat → Int32) {t p k : Nat} {x : Int32} (ht : t < 16) (hp : p < 256) (hk : k < 16) (hr : RV ((V N W).rv t)) (hl : L7 ((V N W).rv t)) : XX (V (yPdu N (nI k) (nI t) (nI p) x) W) = aft (V N W) t (g_CR_hear ((V N W).rv t) ((V N W).rw t) (nI k) (nI p) x) := by
  rcases k_case k hk with h | rfl | rfl | rfl | rfl | rfl
  · rw [pdu_n _ _ _ _ _ h, hear_n _ _ _ _ _ h]
    exact (aft_0 _ _ rfl rfl).symm
  · exact pdu_1 N W ht hp hr hl
  · exact pdu_2 N W ht hp hr hl
  · exact pdu_3 N W ht hp hr hl
  · exact pdu_4 N W ht hp hr hl
  · exact pdu_5 N W ht hp hr hl
set_option maxHeartbeats 4000000 in
set_option maxRecDepth 100000 in
/-- four bits of an info -/
theorem fb_lin {n : Int32} (hb : ∀ i, i < 64 → g_FL_fourBitsAt (bt i) n = ((j_lshr (bt i) n) &&& 15).toInt32) (x : Int64) : g_FL_fourBitsAt x n = ((j_lshr x n) &&& 15).toInt32 :=
  lin_eqI (f := fun x => g_FL_fourBitsAt x n) (g := fun x => ((j_lshr x n) &&& 15).toInt32) (fun a b => x_fb a b n) (fun a b => by show Int64.toInt32 _ = _; rw [x_lshr, x_land, Int64.toInt32_xor]) 64 (by decide) hb x (lNt_64 x)
set_option maxHeartbeats 4000000 in
set_option maxRecDepth 100000 in
theorem fb_52 (x : Int64) : g_FL_fourBitsAt x 52 = ((j_lshr x 52) &&& 15).toInt32 := fb_lin (by decide +kernel) x
set_option maxHeartbeats 4000000 in
set_option maxRecDepth 100000 in
theorem fb_48 (x : Int64) : g_FL_fourBitsAt x 48 = ((j_lshr x 48) &&& 15).toInt32 := fb_lin (by decide +kernel) x
set_option maxHeartbeats 4000000 in
set_option maxRecDepth 100000 in
theorem fb_44 (x : Int64) : g_FL_fourBitsAt x 44 = ((j_lshr x 44) &&& 15).toInt32 := fb_lin (by decide +kernel) x
set_option maxHeartbeats 4000000 in
set_option maxRecDepth 100000 in
theorem fb_40 (x : Int64) : g_FL_fourBitsAt x 40 = ((j_lshr x 40) &&& 15).toInt32 := fb_lin (by decide +kernel) x
set_option maxHeartbeats 4000000 in
set_option maxRecDepth 100000 in
theorem fb_12 (x : Int64) : g_FL_fourBitsAt x 12 = ((j_lshr x 12) &&& 15).toInt32 := fb_lin (by decide +kernel) x
set_option maxHeartbeats 4000000 in
set_option maxRecDepth 100000 in
theorem fb_8 (x : Int64) : g_FL_fourBitsAt x 8 = ((j_lshr x 8) &&& 15).toInt32 := fb_lin (by decide +kernel) x
set_option maxHeartbeats 4000000 in
set_option maxRecDepth 100000 in
theorem fb_0b : ∀ i, i < 64 → g_FL_fourBitsAt (bt i) 0 = (bt i &&& 15).toInt32 := by decide +kernel
set_option maxHeartbeats 4000000 in
set_option maxRecDepth 100000 in
theorem fb_0 (x : Int64) : g_FL_fourBitsAt x 0 = (x &&& 15).toInt32 :=
  lin_eqI (f := fun x => g_FL_fourBitsAt x 0) (g := fun x => (x &&& 15).toInt32) (fun a b => x_fb a b 0) (fun a b => by show Int64.toInt32 _ = _; rw [x_land, Int64.toInt32_xor]) 64 (by decide) fb_0b x (lNt_64 x)
set_option maxHeartbeats 4000000 in
set_option maxRecDepth 100000 in
theorem po_b : ∀ i, i < 64 → ((j_lushr (bt i) 32).toInt32) &&& 255 = ((j_lshr (bt i) 32) &&& 255).toInt32 := by decide +kernel
set_option maxHeartbeats 4000000 in
set_option maxRecDepth 100000 in
theorem po_eq (x : Int64) : ((j_lushr x 32).toInt32) &&& 255 = ((j_lshr x 32) &&& 255).toInt32 :=
  lin_eqI (f := fun x => ((j_lushr x 32).toInt32) &&& 255) (g := fun x => ((j_lshr x 32) &&& 255).toInt32) (fun a b => by show Int64.toInt32 _ &&& _ = _; rw [x_lushr, Int64.toInt32_xor, x_iand]) (fun a b => by show Int64.toInt32 _ = _; rw [x_lshr, x_land, Int64.toInt32_xor]) 64 (by decide) po_b x (lNt_64 x)
set_option maxHeartbeats 4000000 in
set_option maxRecDepth 100000 in
theorem ma_b : ∀ i, i < 64 → ((j_lushr (bt i) 16).toInt32) &&& 16777215 = ((j_lshr (bt i) 16) &&& 16777215).toInt32 := by decide +kernel
set_option maxHeartbeats 4000000 in
set_option maxRecDepth 100000 in
theorem ma_eq (x : Int64) : ((j_lushr x 16).toInt32) &&& 16777215 = ((j_lshr x 16) &&& 16777215).toInt32 :=
  lin_eqI (f := fun x => ((j_lushr x 16).toInt32) &&& 16777215) (g := fun x => ((j_lshr x 16) &&& 16777215).toInt32) (fun a b => by show Int64.toInt32 _ &&& _ = _; rw [x_lushr, Int64.toInt32_xor, x_iand]) (fun a b => by show Int64.toInt32 _ = _; rw [x_lshr, x_land, Int64.toInt32_xor]) 64 (by decide) ma_b x (lNt_64 x)
set_option maxHeartbeats 4000000 in
set_option maxRecDepth 100000 in
/-- the class hears a PDU -/
theorem ct_pdu (v : Vw) (x : Int64) {t p k : Nat} (ht : t < 16) (eT : g_FL_fourBitsAt x 40 = nI t) (eK : g_FL_fourBitsAt x 44 = nI k) (eP : ((j_lushr x 32).toInt32) &&& 255 = nI p) (hx : ¬ lg_cmp x (-1) = 0) (hg : ¬ (g_CF_giveOn v.cv (g_FL_fourBitsAt x 52) (g_FL_fourBitsAt x 48)).1 = 0) : g_CT_hear (XX v) x = aft (mkV v.tm v.cn v.fs v.wf v.wg v.wb v.gv v.gz v.gi ((g_CF_giveOn v.cv (g_FL_fourBitsAt x 52) (g_FL_fourBitsAt x 48)).2) v.st v.sw v.tv v.tw v.rv v.rw) t (g_CR_hear (v.rv t) (v.rw t) (nI k) (nI p) x.toInt32) := by
  unfold g_CT_hear aft
  rw [if_neg hx, X_16, if_neg hg, X_pCF, eT, clN ht, X_rv _ ht, X_rw _ ht, eK, eP, X_pCR _ ht]
  dsimp only [m_tm, m_cn, m_fs, m_wf, m_wg, m_wb, m_gv, m_gz, m_gi, m_cv, m_st, m_sw, m_tv, m_tw, m_rv, m_rw, p_tm, p_cn, p_fs, p_wf, p_wg, p_wb, p_gv, p_gz, p_gi, p_cv, p_st, p_sw, p_tv, p_tw, p_rv, p_rw]
  rfl
