/-! the craft's clocks and what it sends -/
def RA (N : fl_M) (W : Nat → Nat → Int32) : Prop := ∀ t, t < 16 → RV ((V N W).rv t) ∧ L7 ((V N W).rv t)
set_option maxHeartbeats 4000000 in
set_option maxRecDepth 100000 in
theorem ra_up {N N1 : fl_M} {W : Nat → Nat → Int32} {t : Nat} {f : Nat → Int32} (h : RA N W) (e : (V N1 W).rv = va_up (V N W).rv t f) (hf : RV f ∧ L7 f) : RA N1 W := by
  intro s hs
  rw [e]
  by_cases h1 : s = t
  · rw [h1, va_up_self]; exact hf
  · rw [va_up_ne _ _ h1]; exact h s hs
set_option maxHeartbeats 4000000 in
set_option maxRecDepth 100000 in
theorem s_cl1 (N : fl_M) (W : Nat → Nat → Int32) {t : Nat} (ht : t < 16) (h : RA N W) : pCR (XX (V N W)) (56 + 2 * t) ((g_CR_stepClocks ((XX (V N W)).1 (56 + 2 * t)) ((XX (V N W)).1 (56 + 2 * t + 1))).1) ((g_CR_stepClocks ((XX (V N W)).1 (56 + 2 * t)) ((XX (V N W)).1 (56 + 2 * t + 1))).2) = XX (V (g_MD_craftClocks N (nI t)) W) ∧ RA (g_MD_craftClocks N (nI t)) W := by
  have e := sc_v N W ht (h t ht).1
  refine ⟨?_, ra_up h (by rw [e]; rfl) (rv_step (h t ht).1 (h t ht).2)⟩
  rw [X_rv _ ht, X_rw _ ht, X_pCR _ ht, sc_w, va_up_id, e]
set_option maxHeartbeats 4000000 in
set_option maxRecDepth 100000 in
theorem s_clL (W : Nat → Nat → Int32) : ∀ k i (N : fl_M), i + k ≤ 16 → RA N W → g_CT_stepClocks_L2 k i (XX (V N W)) = XX (V (g_MD_tick_L29 k i N) W) ∧ RA (g_MD_tick_L29 k i N) W := by
  intro k
  induction k with
  | zero => intro i N _ h; exact ⟨rfl, h⟩
  | succ k ih =>
    intro i N hi h
    have h1 := s_cl1 N W (t := i) (by omega) h
    have h2 := ih (i + 1) _ (by omega) h1.2
    refine ⟨?_, h2.2⟩
    rw [← clN (show i < 16 by omega)] at h1
    show g_CT_stepClocks_L2 k (i + 1) _ = XX (V (g_MD_tick_L29 k (i + 1) _) W)
    rw [h1.1]
    rw [clN (show i < 16 by omega)]
    exact h2.1
set_option maxHeartbeats 4000000 in
set_option maxRecDepth 100000 in
/-- who owes first -/
theorem cn_L (N : fl_M) (W : Nat → Nat → Int32) : ∀ k i, i + k = 16 → (g_MD_craftSends_L2 N k i = nI 16 ∧ g_CT_nextInfo_L2 (XX (V N W)) k i = ((g_CF_reportBits (V N W).cv).toInt64, XX (V N W))) ∨ ∃ t, t < 16 ∧ g_MD_craftSends_L2 N k i = nI t ∧ ¬ (N.1 36 t = 0 ∧ N.1 37 t = 0 ∧ N.1 38 t = 0) ∧ g_CT_nextInfo_L2 (XX (V N W)) k i = (((g_CR_payOne ((V N W).rv t) ((V N W).rw t)).1 ||| j_lshl ((nI t).toInt64) 12) ||| (g_CF_reportBits (V N W).cv).toInt64, XX (mkV (V N W).tm (V N W).cn (V N W).fs (V N W).wf (V N W).wg (V N W).wb (V N W).gv (V N W).gz (V N W).gi (V N W).cv (V N W).st (V N W).sw (V N W).tv (V N W).tw (va_up (V N W).rv t (g_CR_payOne ((V N W).rv t) ((V N W).rw t)).2.1) (va_up (V N W).rw t (g_CR_payOne ((V N W).rv t) ((V N W).rw t)).2.2))) := by
  intro k
  induction k with
  | zero =>
    intro i hi
    have : i = 16 := by omega
    subst this
    exact Or.inl ⟨rfl, rfl⟩
  | succ k ih =>
    intro i hi
    have hi16 : i < 16 := by omega
    have e36 : (V N W).rv i 12 = N.1 36 i := rfl
    have e37 : (V N W).rv i 13 = N.1 37 i := rfl
    have e38 : (V N W).rv i 14 = N.1 38 i := rfl
    have eo : (g_CR_owesAny ((V N W).rv i) ((V N W).rw i) = 0) ↔ (N.1 36 i = 0 ∧ N.1 37 i = 0 ∧ N.1 38 i = 0) := by
      unfold g_CR_owesAny
      rw [e36, e37, e38]
      by_cases a : N.1 36 i = 0
      · rw [if_pos a]
        by_cases b : N.1 37 i = 0
        · rw [if_pos b]
          by_cases c : N.1 38 i = 0
          · rw [if_pos c]; exact ⟨fun _ => ⟨a, b, c⟩, fun _ => rfl⟩
          · rw [if_neg c]; exact ⟨fun h => absurd h (by decide), fun h => absurd h.2.2 c⟩
        · rw [if_neg b]; exact ⟨fun h => absurd h (by decide), fun h => absurd h.2.1 b⟩
      · rw [if_neg a]; exact ⟨fun h => absurd h (by decide), fun h => absurd h.1 a⟩
    unfold g_MD_craftSends_L2 g_CT_nextInfo_L2
    rw [clN hi16, X_rv _ hi16, X_rw _ hi16, X_pCR _ hi16, X_16]
    by_cases o : N.1 36 i = 0 ∧ N.1 37 i = 0 ∧ N.1 38 i = 0
    · rw [if_pos (eo.2 o), if_pos o.1, if_pos o.2.1, if_pos o.2.2]
      exact ih (i + 1) (by omega)
    · rw [if_neg (fun c => o (eo.1 c))]
      refine Or.inr ⟨i, hi16, ?_, o, rfl⟩
      by_cases a : N.1 36 i = 0
      · rw [if_pos a]
        by_cases b : N.1 37 i = 0
        · rw [if_pos b, if_neg (fun c => o ⟨a, b, c⟩)]
        · rw [if_neg b]
      · rw [if_neg a]
/-- the report behind a PDU -/
def tl (N : fl_M) (p : Int64) : Int64 := ((p ||| (N.1 0 38).toInt64) ||| (if N.1 0 39 = 0 then 0 else 16)) ||| (if N.1 0 40 = 0 then 0 else 32)
def csF (N : fl_M) (N' : fl_M) (p : Int64) : fl_M := if N.1 0 39 = 0 then (if N.1 0 40 = 0 then g_MD_send N' 1 (g_MD_encode N' 0 (((p ||| (N.1 0 38).toInt64) ||| 0) ||| 0)) else g_MD_send N' 1 (g_MD_encode N' 0 (((p ||| (N.1 0 38).toInt64) ||| 0) ||| 32))) else (if N.1 0 40 = 0 then g_MD_send N' 1 (g_MD_encode N' 0 (((p ||| (N.1 0 38).toInt64) ||| 16) ||| 0)) else g_MD_send N' 1 (g_MD_encode N' 0 (((p ||| (N.1 0 38).toInt64) ||| 16) ||| 32)))
set_option maxHeartbeats 4000000 in
set_option maxRecDepth 100000 in
theorem csF_eq (N N' : fl_M) (p : Int64) : csF N N' p = g_MD_send N' 1 (g_MD_encode N' 0 (tl N p)) := by
  unfold csF tl
  by_cases a : N.1 0 39 = 0 <;> by_cases b : N.1 0 40 = 0 <;> simp only [a, b, if_true, if_false]
set_option maxHeartbeats 4000000 in
set_option maxRecDepth 100000 in
theorem tl_rep (N : fl_M) (W : Nat → Nat → Int32) {e : Nat} (he : e < 16) (h : N.1 0 38 = nI e) (p : Int64) : tl N p = p ||| (g_CF_reportBits (V N W).cv).toInt64 := by
  unfold tl g_CF_reportBits
  have c0 : (V N W).cv 0 = N.1 0 38 := rfl
  have c1 : (V N W).cv 1 = N.1 0 39 := rfl
  have c2 : (V N W).cv 2 = N.1 0 40 := rfl
  rw [c0, c1, c2, h, Int64.or_assoc, Int64.or_assoc]
  congr 1
  have h1 : ∀ e, e < 16 → (nI e).toInt64 ||| ((0 : Int64) ||| 0) = (nI e + 0 + 0).toInt64 ∧ (nI e).toInt64 ||| ((0 : Int64) ||| 32) = (nI e + 0 + 32).toInt64 ∧ (nI e).toInt64 ||| ((16 : Int64) ||| 0) = (nI e + 16 + 0).toInt64 ∧ (nI e).toInt64 ||| ((16 : Int64) ||| 32) = (nI e + 16 + 32).toInt64 := by decide +kernel
  obtain ⟨a1, a2, a3, a4⟩ := h1 e he
  by_cases a : N.1 0 39 = 0 <;> by_cases b : N.1 0 40 = 0 <;> simp only [a, b, if_true, if_false, a1, a2, a3, a4]
def yCs (N : fl_M) (tt : Int32) : fl_M :=
  if 16 ≤ tt then csF N N 0 else (if (N.1 36 tt.toNatClampNeg) = 0 then (if (N.1 37 tt.toNatClampNeg) = 0 then (if (N.1 38 tt.toNatClampNeg) = 0 then csF N (fl_i (fl_i (fl_i N 36 tt.toNatClampNeg 0) 37 tt.toNatClampNeg 0) 38 tt.toNatClampNeg 0) (((j_lshl ((N.1 26 tt.toNatClampNeg).toInt64) 16) ||| ((tt <<< (12 &&& 31)).toInt64)) ||| (((3 : Int32) <<< ((8 : Int32) &&& 31)).toInt64)) else csF N (fl_i (fl_i (fl_i N 36 tt.toNatClampNeg 0) 37 tt.toNatClampNeg 0) 38 tt.toNatClampNeg 0) (((j_lshl ((N.1 26 tt.toNatClampNeg).toInt64) 16) ||| ((tt <<< (12 &&& 31)).toInt64)) ||| (((3 : Int32) <<< ((8 : Int32) &&& 31)).toInt64))) else (if (N.1 38 tt.toNatClampNeg) = 0 then csF N (fl_i (fl_i (fl_i N 36 tt.toNatClampNeg 0) 37 tt.toNatClampNeg 0) 38 tt.toNatClampNeg 0) (((j_lshl ((g_MD_lacking N tt).toInt64) 16) ||| ((tt <<< (12 &&& 31)).toInt64)) ||| (((2 : Int32) <<< ((8 : Int32) &&& 31)).toInt64)) else csF N (fl_i (fl_i (fl_i N 36 tt.toNatClampNeg 0) 37 tt.toNatClampNeg 0) 38 tt.toNatClampNeg 1) (((j_lshl ((g_MD_lacking N tt).toInt64) 16) ||| ((tt <<< (12 &&& 31)).toInt64)) ||| (((2 : Int32) <<< ((8 : Int32) &&& 31)).toInt64)))) else (if (N.1 37 tt.toNatClampNeg) = 0 then (if (N.1 38 tt.toNatClampNeg) = 0 then csF N (fl_i (fl_i (fl_i N 36 tt.toNatClampNeg 0) 37 tt.toNatClampNeg 0) 38 tt.toNatClampNeg 0) (((j_lshl ((0 : Int32).toInt64) 16) ||| ((tt <<< (12 &&& 31)).toInt64)) ||| (((1 : Int32) <<< ((8 : Int32) &&& 31)).toInt64)) else csF N (fl_i (fl_i (fl_i N 36 tt.toNatClampNeg 0) 37 tt.toNatClampNeg 0) 38 tt.toNatClampNeg 1) (((j_lshl ((0 : Int32).toInt64) 16) ||| ((tt <<< (12 &&& 31)).toInt64)) ||| (((1 : Int32) <<< ((8 : Int32) &&& 31)).toInt64))) else (if (N.1 38 tt.toNatClampNeg) = 0 then csF N (fl_i (fl_i (fl_i N 36 tt.toNatClampNeg 0) 37 tt.toNatClampNeg 1) 38 tt.toNatClampNeg 0) (((j_lshl ((0 : Int32).toInt64) 16) ||| ((tt <<< (12 &&& 31)).toInt64)) ||| (((1 : Int32) <<< ((8 : Int32) &&& 31)).toInt64)) else csF N (fl_i (fl_i (fl_i N 36 tt.toNatClampNeg 0) 37 tt.toNatClampNeg 1) 38 tt.toNatClampNeg 1) (((j_lshl ((0 : Int32).toInt64) 16) ||| ((tt <<< (12 &&& 31)).toInt64)) ||| (((1 : Int32) <<< ((8 : Int32) &&& 31)).toInt64)))))
set_option maxHeartbeats 4000000 in
set_option maxRecDepth 100000 in
theorem yCs_eq (N : fl_M) : g_MD_craftSends N = yCs N (g_MD_craftSends_L2 N 16 0) := rfl
set_option maxHeartbeats 4000000 in
set_option maxRecDepth 100000 in
theorem V_rvw' {v : Vw} {t : Nat} {a b c : Nat → Int32} (h : a = b) (h' : c = v.rw t) : ((mkV v.tm v.cn v.fs v.wf v.wg v.wb v.gv v.gz v.gi v.cv v.st v.sw v.tv v.tw (va_up v.rv t a) v.rw) : Vw) = (mkV v.tm v.cn v.fs v.wf v.wg v.wb v.gv v.gz v.gi v.cv v.st v.sw v.tv v.tw (va_up v.rv t b) (va_up v.rw t c)) := by rw [h, h', va_up_id]
set_option maxHeartbeats 4000000 in
set_option maxRecDepth 100000 in
theorem s_cs (N : fl_M) (W : Nat → Nat → Int32) (h : RA N W) {e : Nat} (he : e < 16) (h38 : N.1 0 38 = nI e) : ∃ N' x, g_MD_craftSends N = g_MD_send N' 1 (g_MD_encode N' 0 x) ∧ g_CT_nextInfo (XX (V N W)) = (x, XX (V N' W)) ∧ (∀ c, c ≠ 36 → c ≠ 37 → c ≠ 38 → N'.1 c = N.1 c) ∧ N'.2 = N.2 ∧ RA N' W := by
  rw [yCs_eq]
  unfold g_CT_nextInfo
  rcases cn_L N W 16 0 rfl with ⟨h1, h2⟩ | ⟨t, ht, h1, ho, h2⟩
  · rw [h1, h2]
    refine ⟨N, tl N 0, ?_, ?_, fun _ _ _ _ => rfl, rfl, h⟩
    · unfold yCs
      rw [if_pos (by decide), csF_eq]
    · rw [tl_rep N W he h38, Int64.zero_or]
  · rw [h1, h2]
    have hr := (h t ht).1
    have b36 : b01 (N.1 36 t) := hr.got
    have b37 : b01 (N.1 37 t) := hr.lk
    have b38 : b01 (N.1 38 t) := hr.fn
    have n16 : ¬ 16 ≤ nI t := nI_ge (b := 16) ht (by omega)
    have hsh : ∀ t, t < 16 → (nI t <<< (12 &&& 31)).toInt64 = j_lshl ((nI t).toInt64) 12 := by decide +kernel
    have key : ∀ (a b c : Int32) (p q : Int64), yCs N (nI t) = csF N (fl_i (fl_i (fl_i N 36 t a) 37 t b) 38 t c) ((p ||| (nI t <<< (12 &&& 31)).toInt64) ||| q) → (g_CR_payOne ((V N W).rv t) ((V N W).rw t)).1 = q ||| p → (upd (upd (upd ((V N W).rv t) 12 a) 13 b) 14 c) = (g_CR_payOne ((V N W).rv t) ((V N W).rw t)).2.1 → (g_CR_payOne ((V N W).rv t) ((V N W).rw t)).2.2 = (V N W).rw t → ∃ N' x, yCs N (nI t) = g_MD_send N' 1 (g_MD_encode N' 0 x) ∧ (((g_CR_payOne ((V N W).rv t) ((V N W).rw t)).1 ||| j_lshl ((nI t).toInt64) 12) ||| (g_CF_reportBits (V N W).cv).toInt64, XX (mkV (V N W).tm (V N W).cn (V N W).fs (V N W).wf (V N W).wg (V N W).wb (V N W).gv (V N W).gz (V N W).gi (V N W).cv (V N W).st (V N W).sw (V N W).tv (V N W).tw (va_up (V N W).rv t (g_CR_payOne ((V N W).rv t) ((V N W).rw t)).2.1) (va_up (V N W).rw t (g_CR_payOne ((V N W).rv t) ((V N W).rw t)).2.2))) = (x, XX (V N' W)) ∧ (∀ c, c ≠ 36 → c ≠ 37 → c ≠ 38 → N'.1 c = N.1 c) ∧ N'.2 = N.2 ∧ RA N' W := by
      intro a b c p q k1 k2 k3 k4
      have eV : V (fl_i (fl_i (fl_i N 36 t a) 37 t b) 38 t c) W = (mkV (V N W).tm (V N W).cn (V N W).fs (V N W).wf (V N W).wg (V N W).wb (V N W).gv (V N W).gz (V N W).gi (V N W).cv (V N W).st (V N W).sw (V N W).tv (V N W).tw (va_up (V N W).rv t (upd (upd (upd ((V N W).rv t) 12 a) 13 b) 14 c)) (V N W).rw) := by
        (simp only [V_36, V_37, V_38, va_up_up, va_up_self, mm_rv]) <;> dsimp only [m_tm, m_cn, m_fs, m_wf, m_wg, m_wb, m_gv, m_gz, m_gi, m_cv, m_st, m_sw, m_tv, m_tw, m_rv, m_rw, p_tm, p_cn, p_fs, p_wf, p_wg, p_wb, p_gv, p_gz, p_gi, p_cv, p_st, p_sw, p_tv, p_tw, p_rv, p_rw]
      refine ⟨fl_i (fl_i (fl_i N 36 t a) 37 t b) 38 t c, tl N ((p ||| (nI t <<< (12 &&& 31)).toInt64) ||| q), ?_, ?_, fun d d1 d2 d3 => ?_, rfl, ?_⟩
      · rw [k1, csF_eq]
      · rw [tl_rep N W he h38, hsh t ht, k2, eV, k4]
        refine Prod.ext ?_ ?_
        · show _ ||| _ = _ ||| _
          congr 1
          rw [Int64.or_comm q p, Int64.or_assoc, Int64.or_assoc, Int64.or_comm q]
        · exact congrArg XX (V_rvw' k3 rfl).symm
      · rw [fi_ne d3, fi_ne d2, fi_ne d1]
      · refine ra_up h (f := upd (upd (upd ((V N W).rv t) 12 a) 13 b) 14 c) (t := t) (by rw [eV]; rfl) ?_
        rw [k3]
        exact rv_pay hr (h t ht).2
    have e12 : (V N W).rv t 12 = N.1 36 t := rfl
    have e13 : (V N W).rv t 13 = N.1 37 t := rfl
    have e14 : (V N W).rv t 14 = N.1 38 t := rfl
    have u12 : ∀ x, N.1 36 t = x → upd ((V N W).rv t) 12 x = (V N W).rv t := fun x hx => upd_id hx
    have u13 : ∀ (f : Nat → Int32) (x : Int32), f 13 = x → upd f 13 x = f := fun f x hx => upd_id hx
    have u14 : ∀ (f : Nat → Int32) (x : Int32), f 14 = x → upd f 14 x = f := fun f x hx => upd_id hx
    unfold yCs at key ⊢
    unfold g_CR_payOne at key ⊢
    rw [if_neg n16, clN ht, e12, e13] at key ⊢
    by_cases a : N.1 36 t = 0
    · simp only [if_pos a] at key ⊢
      by_cases b : N.1 37 t = 0
      · have c1 : N.1 38 t = 1 := b38.resolve_left (fun c => ho ⟨a, b, c⟩)
        have c : ¬ N.1 38 t = 0 := by rw [c1]; decide
        simp only [if_pos b, if_neg c] at key ⊢
        refine key 0 0 0 _ _ rfl rfl ?_ (by trivial)
        rw [u12 0 a, u13 _ 0 b]
      · have b1 : N.1 37 t = 1 := b37.resolve_left b
        have hlk := lk_eq (N.1 27 t) (n := (N.1 31 t).toNatClampNeg) (by have := (h t ht).2.2; exact Nat.lt_succ_of_le this)
        have hnn : nn (N.1 31 t) := (h t ht).2.1
        rw [← hnn] at hlk
        have el : g_CR_lackingParts (upd ((V N W).rv t) 13 0) ((V N W).rw t) = g_MD_lacking N (nI t) := by
          unfold g_MD_lacking
          rw [clN ht]
          exact hlk.2 (hr.eof (show N.1 37 t ≠ 0 from b))
        simp only [if_neg b, el] at key ⊢
        rcases b38 with c | c
        · simp only [if_pos c] at key ⊢
          refine key 0 0 0 _ _ rfl rfl ?_ (by trivial)
          rw [u12 0 a, u14 _ 0 c]
        · have c' : ¬ N.1 38 t = 0 := by rw [c]; decide
          simp only [if_neg c'] at key ⊢
          refine key 0 0 1 _ _ rfl rfl ?_ (by trivial)
          rw [u12 0 a, u14 _ 1 c]
    · simp only [if_neg a] at key ⊢
      rcases b37 with b | b <;> rcases b38 with c | c
      · simp only [if_pos b, if_pos c] at key ⊢
        refine key 0 0 0 _ _ rfl (by decide) ?_ (by trivial)
        rw [u13 _ 0 b, u14 _ 0 c]
      · have c' : ¬ N.1 38 t = 0 := by rw [c]; decide
        simp only [if_pos b, if_neg c'] at key ⊢
        refine key 0 0 1 _ _ rfl (by decide) ?_ (by trivial)
        rw [u13 _ 0 b, u14 _ 1 c]
      · have b' : ¬ N.1 37 t = 0 := by rw [b]; decide
        simp only [if_neg b', if_pos c] at key ⊢
        refine key 0 1 0 _ _ rfl (by decide) ?_ (by trivial)
        rw [u13 _ 1 b, u14 _ 0 c]
      · have b' : ¬ N.1 37 t = 0 := by rw [b]; decide
        have c' : ¬ N.1 38 t = 0 := by rw [c]; decide
        simp only [if_neg b', if_neg c'] at key ⊢
        refine key 0 1 1 _ _ rfl (by decide) ?_ (by trivial)
        rw [u13 _ 1 b, u14 _ 1 c]
