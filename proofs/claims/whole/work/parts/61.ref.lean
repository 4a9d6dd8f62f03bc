/-! the reference's state, part by part; what a write does to the parts -/
def yR (N : fl_M) (t : Nat) : Nat → Int32 := fun i => match i with
  | 0 => N.1 0 1
  | 2 => N.1 25 t
  | 3 => N.1 26 t
  | 4 => N.1 27 t
  | 5 => N.1 29 t
  | 6 => N.1 30 t
  | 7 => N.1 31 t
  | 8 => N.1 32 t
  | 9 => N.1 35 t
  | 10 => N.1 34 t
  | 11 => N.1 33 t
  | 12 => N.1 36 t
  | 13 => N.1 37 t
  | 14 => N.1 38 t
  | _ => 0
def yT (N : fl_M) (t : Nat) : Nat → Int32 := fun i => match i with
  | 0 => nI t
  | 1 => N.1 0 1
  | 3 => N.1 10 t
  | 4 => N.1 11 t
  | 5 => N.1 12 t
  | 6 => N.1 15 t
  | 7 => N.1 20 t
  | 8 => N.1 21 t
  | 9 => N.1 22 t
  | 10 => N.1 14 t
  | 11 => N.1 17 t
  | 12 => N.1 16 t
  | 13 => N.1 18 t
  | 14 => N.1 13 t
  | _ => 0
def yG (N : fl_M) : Nat → Int32 := fun i => match i with
  | 0 => N.1 0 1
  | 3 => N.1 0 28
  | 4 => N.1 0 29
  | 5 => N.1 0 30
  | 6 => N.1 0 34
  | 7 => N.1 0 36
  | 8 => N.1 0 37
  | 9 => N.1 0 33
  | 10 => N.1 0 35
  | _ => 0
def yC (N : fl_M) : Nat → Int32 := fun i => match i with
  | 0 => N.1 0 38
  | 1 => N.1 0 39
  | 2 => N.1 0 40
  | _ => 0
def yW (N : fl_M) (u : Nat) : Nat → Int32 := fun i => match i with
  | 0 => if u = 0 then 1 else 0
  | 1 => N.1 0 0
  | 4 => N.1 4 u
  | 5 => N.1 5 u
  | 6 => N.1 6 u
  | 7 => N.1 7 u
  | _ => 0
def yWg (N : fl_M) (u : Nat) : Nat → Int64 := fun i => match i with
  | 3 => N.2 3 u
  | _ => 0
def yWb (N : fl_M) (u : Nat) : Nat → Int64 := fun j => if j < 8 then (if N.1 2 (8 * u + j) = 0 then -1 else N.2 1 (8 * u + j)) else 0
def yRw (N : fl_M) (t : Nat) : Nat → Int32 := fun k => if k < 16 then N.1 28 (16 * t + k) else 0
def yF (N : fl_M) (t : Nat) : Nat → Int32 := fun k => if k < 16 then N.1 8 (16 * t + k) else 0
def yS (N : fl_M) (t : Nat) : Nat → Int32 := fun k => if k < 16 then N.1 40 (16 * t + k) else 0
def V (N : fl_M) (W : Nat → Nat → Int32) : Vw := mkV (N.1 0 3) (N.1 0 13) (yF N) (yW N) (yWg N) (yWb N) (yG N) (N.1 24) (N.2 23) (yC N) (N.1 39) (yS N) (yT N) W (yR N) (yRw N)
set_option maxHeartbeats 4000000 in
set_option maxRecDepth 100000 in
theorem V_ext {N N' : fl_M} {W : Nat → Nat → Int32} (h1 : N'.1 0 3 = N.1 0 3) (h2 : N'.1 0 13 = N.1 0 13) (h3 : yF N' = yF N) (h4 : yW N' = yW N) (h5 : yWg N' = yWg N) (h6 : yWb N' = yWb N) (h7 : yG N' = yG N) (h8 : N'.1 24 = N.1 24) (h9 : N'.2 23 = N.2 23) (h10 : yC N' = yC N) (h11 : N'.1 39 = N.1 39) (h12 : yS N' = yS N) (h13 : yT N' = yT N) (h14 : yR N' = yR N) (h15 : yRw N' = yRw N) : V N' W = V N W := by
  unfold V
  rw [h1, h2, h3, h4, h5, h6, h7, h8, h9, h10, h11, h12, h13, h14, h15]
set_option maxHeartbeats 4000000 in
set_option maxRecDepth 100000 in
theorem fi_ne {N : fl_M} {c j q : Nat} {x : Int32} (h : q ≠ c) : (fl_i N c j x).1 q = N.1 q := va_up_ne _ _ h
set_option maxHeartbeats 4000000 in
set_option maxRecDepth 100000 in
theorem fi_at {N : fl_M} {c j : Nat} {x : Int32} : (fl_i N c j x).1 c = upd (N.1 c) j x := va_up_self _ _ _
set_option maxHeartbeats 4000000 in
set_option maxRecDepth 100000 in
theorem fi_2 {N : fl_M} {c j : Nat} {x : Int32} : (fl_i N c j x).2 = N.2 := rfl
set_option maxHeartbeats 4000000 in
set_option maxRecDepth 100000 in
theorem fl1_ne {N : fl_M} {c j q : Nat} {x : Int64} (h : q ≠ c) : (fl_l N c j x).2 q = N.2 q := va_up_ne _ _ h
set_option maxHeartbeats 4000000 in
set_option maxRecDepth 100000 in
theorem fl1_at {N : fl_M} {c j : Nat} {x : Int64} : (fl_l N c j x).2 c = vp_updL (N.2 c) j x := va_up_self _ _ _
set_option maxHeartbeats 4000000 in
set_option maxRecDepth 100000 in
theorem fl1_1 {N : fl_M} {c j : Nat} {x : Int64} : (fl_l N c j x).1 = N.1 := rfl
set_option maxHeartbeats 4000000 in
set_option maxRecDepth 100000 in
/-- what the parts read -/
theorem yR_c {N N' : fl_M} (h0 : N'.1 0 1 = N.1 0 1) (h : ∀ c, 25 ≤ c → c ≤ 38 → c ≠ 28 → N'.1 c = N.1 c) : yR N' = yR N := by
  funext t
  unfold yR
  rw [h0, h 25 (by decide) (by decide) (by decide), h 26 (by decide) (by decide) (by decide), h 27 (by decide) (by decide) (by decide), h 29 (by decide) (by decide) (by decide), h 30 (by decide) (by decide) (by decide), h 31 (by decide) (by decide) (by decide), h 32 (by decide) (by decide) (by decide), h 33 (by decide) (by decide) (by decide), h 34 (by decide) (by decide) (by decide), h 35 (by decide) (by decide) (by decide), h 36 (by decide) (by decide) (by decide), h 37 (by decide) (by decide) (by decide), h 38 (by decide) (by decide) (by decide)]
set_option maxHeartbeats 4000000 in
set_option maxRecDepth 100000 in
theorem yT_c {N N' : fl_M} (h0 : N'.1 0 1 = N.1 0 1) (h : ∀ c, 10 ≤ c → c ≤ 22 → c ≠ 19 → N'.1 c = N.1 c) : yT N' = yT N := by
  funext t
  unfold yT
  rw [h0, h 10 (by decide) (by decide) (by decide), h 11 (by decide) (by decide) (by decide), h 12 (by decide) (by decide) (by decide), h 13 (by decide) (by decide) (by decide), h 14 (by decide) (by decide) (by decide), h 15 (by decide) (by decide) (by decide), h 16 (by decide) (by decide) (by decide), h 17 (by decide) (by decide) (by decide), h 18 (by decide) (by decide) (by decide), h 20 (by decide) (by decide) (by decide), h 21 (by decide) (by decide) (by decide), h 22 (by decide) (by decide) (by decide)]
set_option maxHeartbeats 4000000 in
set_option maxRecDepth 100000 in
theorem yW_c {N N' : fl_M} (h0 : N'.1 0 0 = N.1 0 0) (h : ∀ c, 4 ≤ c → c ≤ 7 → N'.1 c = N.1 c) : yW N' = yW N := by
  funext t
  unfold yW
  rw [h0, h 4 (by decide) (by decide), h 5 (by decide) (by decide), h 6 (by decide) (by decide), h 7 (by decide) (by decide)]
set_option maxHeartbeats 4000000 in
set_option maxRecDepth 100000 in
theorem yRw_c {N N' : fl_M} (h : N'.1 28 = N.1 28) : yRw N' = yRw N := by unfold yRw; rw [h]
set_option maxHeartbeats 4000000 in
set_option maxRecDepth 100000 in
theorem yF_c {N N' : fl_M} (h : N'.1 8 = N.1 8) : yF N' = yF N := by unfold yF; rw [h]
set_option maxHeartbeats 4000000 in
set_option maxRecDepth 100000 in
theorem yS_c {N N' : fl_M} (h : N'.1 40 = N.1 40) : yS N' = yS N := by unfold yS; rw [h]
set_option maxHeartbeats 4000000 in
set_option maxRecDepth 100000 in
theorem yWb_c {N N' : fl_M} (h : N'.1 2 = N.1 2) (h1 : N'.2 1 = N.2 1) : yWb N' = yWb N := by unfold yWb; rw [h, h1]
set_option maxHeartbeats 4000000 in
set_option maxRecDepth 100000 in
theorem yWg_c {N N' : fl_M} (h : N'.2 3 = N.2 3) : yWg N' = yWg N := by unfold yWg; rw [h]
set_option maxHeartbeats 4000000 in
set_option maxRecDepth 100000 in
theorem yG_c {N N' : fl_M} (h : N'.1 0 = N.1 0) : yG N' = yG N := by unfold yG; rw [h]
set_option maxHeartbeats 4000000 in
set_option maxRecDepth 100000 in
theorem yC_c {N N' : fl_M} (h : N'.1 0 = N.1 0) : yC N' = yC N := by unfold yC; rw [h]
set_option maxHeartbeats 4000000 in
set_option maxRecDepth 100000 in
theorem V_of {N' : fl_M} {W : Nat → Nat → Int32} {v : Vw} (ht : v.tw = W) (h_tm : N'.1 0 3 = v.tm) (h_cn : N'.1 0 13 = v.cn) (h_fs : yF N' = v.fs) (h_wf : yW N' = v.wf) (h_wg : yWg N' = v.wg) (h_wb : yWb N' = v.wb) (h_gv : yG N' = v.gv) (h_gz : N'.1 24 = v.gz) (h_gi : N'.2 23 = v.gi) (h_cv : yC N' = v.cv) (h_st : N'.1 39 = v.st) (h_sw : yS N' = v.sw) (h_tv : yT N' = v.tv) (h_rv : yR N' = v.rv) (h_rw : yRw N' = v.rw) : V N' W = v := by
  unfold V
  rw [h_tm, h_cn, h_fs, h_wf, h_wg, h_wb, h_gv, h_gz, h_gi, h_cv, h_st, h_sw, h_tv, h_rv, h_rw, ← ht]
  exact p_eta v
section
variable (N : fl_M) (W : Nat → Nat → Int32)
set_option maxHeartbeats 4000000 in
set_option maxRecDepth 100000 in
theorem V_25 (t : Nat) (x : Int32) : V (fl_i N 25 t x) W = m_rv (V N W) (fun r => va_up r t (upd (r t) 2 x)) := by
  have hh : yR (fl_i N 25 t x) = va_up (yR N) t (upd (yR N t) 2 x) := by
    funext s
    by_cases hs : s = t
    · subst hs
      rw [va_up_self]
      funext i
      match i with
      | 0 => rfl
      | 1 => rfl
      | 2 => exact (congrFun fi_at s).trans pk_us
      | 3 => rfl
      | 4 => rfl
      | 5 => rfl
      | 6 => rfl
      | 7 => rfl
      | 8 => rfl
      | 9 => rfl
      | 10 => rfl
      | 11 => rfl
      | 12 => rfl
      | 13 => rfl
      | 14 => rfl
      | n + 15 => rfl
    · rw [va_up_ne _ _ hs]
      funext i
      match i with
      | 0 => rfl
      | 1 => rfl
      | 2 => exact (congrFun fi_at s).trans (pk_un hs)
      | 3 => rfl
      | 4 => rfl
      | 5 => rfl
      | 6 => rfl
      | 7 => rfl
      | 8 => rfl
      | 9 => rfl
      | 10 => rfl
      | 11 => rfl
      | 12 => rfl
      | 13 => rfl
      | 14 => rfl
      | n + 15 => rfl
  exact V_of rfl rfl rfl (yF_c (fi_ne (by decide))) (yW_c rfl (fun c h1 h2 => fi_ne (by omega))) rfl (yWb_c (fi_ne (by decide)) rfl) (yG_c (fi_ne (by decide))) (fi_ne (by decide)) rfl (yC_c (fi_ne (by decide))) (fi_ne (by decide)) (yS_c (fi_ne (by decide))) (yT_c rfl (fun c h1 h2 h3 => fi_ne (by omega))) hh (yRw_c (fi_ne (by decide)))
set_option maxHeartbeats 4000000 in
set_option maxRecDepth 100000 in
theorem V_26 (t : Nat) (x : Int32) : V (fl_i N 26 t x) W = m_rv (V N W) (fun r => va_up r t (upd (r t) 3 x)) := by
  have hh : yR (fl_i N 26 t x) = va_up (yR N) t (upd (yR N t) 3 x) := by
    funext s
    by_cases hs : s = t
    · subst hs
      rw [va_up_self]
      funext i
      match i with
      | 0 => rfl
      | 1 => rfl
      | 2 => rfl
      | 3 => exact (congrFun fi_at s).trans pk_us
      | 4 => rfl
      | 5 => rfl
      | 6 => rfl
      | 7 => rfl
      | 8 => rfl
      | 9 => rfl
      | 10 => rfl
      | 11 => rfl
      | 12 => rfl
      | 13 => rfl
      | 14 => rfl
      | n + 15 => rfl
    · rw [va_up_ne _ _ hs]
      funext i
      match i with
      | 0 => rfl
      | 1 => rfl
      | 2 => rfl
      | 3 => exact (congrFun fi_at s).trans (pk_un hs)
      | 4 => rfl
      | 5 => rfl
      | 6 => rfl
      | 7 => rfl
      | 8 => rfl
      | 9 => rfl
      | 10 => rfl
      | 11 => rfl
      | 12 => rfl
      | 13 => rfl
      | 14 => rfl
      | n + 15 => rfl
  exact V_of rfl rfl rfl (yF_c (fi_ne (by decide))) (yW_c rfl (fun c h1 h2 => fi_ne (by omega))) rfl (yWb_c (fi_ne (by decide)) rfl) (yG_c (fi_ne (by decide))) (fi_ne (by decide)) rfl (yC_c (fi_ne (by decide))) (fi_ne (by decide)) (yS_c (fi_ne (by decide))) (yT_c rfl (fun c h1 h2 h3 => fi_ne (by omega))) hh (yRw_c (fi_ne (by decide)))
set_option maxHeartbeats 4000000 in
set_option maxRecDepth 100000 in
theorem V_27 (t : Nat) (x : Int32) : V (fl_i N 27 t x) W = m_rv (V N W) (fun r => va_up r t (upd (r t) 4 x)) := by
  have hh : yR (fl_i N 27 t x) = va_up (yR N) t (upd (yR N t) 4 x) := by
    funext s
    by_cases hs : s = t
    · subst hs
      rw [va_up_self]
      funext i
      match i with
      | 0 => rfl
      | 1 => rfl
      | 2 => rfl
      | 3 => rfl
      | 4 => exact (congrFun fi_at s).trans pk_us
      | 5 => rfl
      | 6 => rfl
      | 7 => rfl
      | 8 => rfl
      | 9 => rfl
      | 10 => rfl
      | 11 => rfl
      | 12 => rfl
      | 13 => rfl
      | 14 => rfl
      | n + 15 => rfl
    · rw [va_up_ne _ _ hs]
      funext i
      match i with
      | 0 => rfl
      | 1 => rfl
      | 2 => rfl
      | 3 => rfl
      | 4 => exact (congrFun fi_at s).trans (pk_un hs)
      | 5 => rfl
      | 6 => rfl
      | 7 => rfl
      | 8 => rfl
      | 9 => rfl
      | 10 => rfl
      | 11 => rfl
      | 12 => rfl
      | 13 => rfl
      | 14 => rfl
      | n + 15 => rfl
  exact V_of rfl rfl rfl (yF_c (fi_ne (by decide))) (yW_c rfl (fun c h1 h2 => fi_ne (by omega))) rfl (yWb_c (fi_ne (by decide)) rfl) (yG_c (fi_ne (by decide))) (fi_ne (by decide)) rfl (yC_c (fi_ne (by decide))) (fi_ne (by decide)) (yS_c (fi_ne (by decide))) (yT_c rfl (fun c h1 h2 h3 => fi_ne (by omega))) hh (yRw_c (fi_ne (by decide)))
set_option maxHeartbeats 4000000 in
set_option maxRecDepth 100000 in
theorem V_29 (t : Nat) (x : Int32) : V (fl_i N 29 t x) W = m_rv (V N W) (fun r => va_up r t (upd (r t) 5 x)) := by
  have hh : yR (fl_i N 29 t x) = va_up (yR N) t (upd (yR N t) 5 x) := by
    funext s
    by_cases hs : s = t
    · subst hs
      rw [va_up_self]
      funext i
      match i with
      | 0 => rfl
      | 1 => rfl
      | 2 => rfl
      | 3 => rfl
      | 4 => rfl
      | 5 => exact (congrFun fi_at s).trans pk_us
      | 6 => rfl
      | 7 => rfl
      | 8 => rfl
      | 9 => rfl
      | 10 => rfl
      | 11 => rfl
      | 12 => rfl
      | 13 => rfl
      | 14 => rfl
      | n + 15 => rfl
    · rw [va_up_ne _ _ hs]
      funext i
      match i with
      | 0 => rfl
      | 1 => rfl
      | 2 => rfl
      | 3 => rfl
      | 4 => rfl
      | 5 => exact (congrFun fi_at s).trans (pk_un hs)
      | 6 => rfl
      | 7 => rfl
      | 8 => rfl
      | 9 => rfl
      | 10 => rfl
      | 11 => rfl
      | 12 => rfl
      | 13 => rfl
      | 14 => rfl
      | n + 15 => rfl
  exact V_of rfl rfl rfl (yF_c (fi_ne (by decide))) (yW_c rfl (fun c h1 h2 => fi_ne (by omega))) rfl (yWb_c (fi_ne (by decide)) rfl) (yG_c (fi_ne (by decide))) (fi_ne (by decide)) rfl (yC_c (fi_ne (by decide))) (fi_ne (by decide)) (yS_c (fi_ne (by decide))) (yT_c rfl (fun c h1 h2 h3 => fi_ne (by omega))) hh (yRw_c (fi_ne (by decide)))
set_option maxHeartbeats 4000000 in
set_option maxRecDepth 100000 in
theorem V_30 (t : Nat) (x : Int32) : V (fl_i N 30 t x) W = m_rv (V N W) (fun r => va_up r t (upd (r t) 6 x)) := by
  have hh : yR (fl_i N 30 t x) = va_up (yR N) t (upd (yR N t) 6 x) := by
    funext s
    by_cases hs : s = t
    · subst hs
      rw [va_up_self]
      funext i
      match i with
      | 0 => rfl
      | 1 => rfl
      | 2 => rfl
      | 3 => rfl
      | 4 => rfl
      | 5 => rfl
      | 6 => exact (congrFun fi_at s).trans pk_us
      | 7 => rfl
      | 8 => rfl
      | 9 => rfl
      | 10 => rfl
      | 11 => rfl
      | 12 => rfl
      | 13 => rfl
      | 14 => rfl
      | n + 15 => rfl
    · rw [va_up_ne _ _ hs]
      funext i
      match i with
      | 0 => rfl
      | 1 => rfl
      | 2 => rfl
      | 3 => rfl
      | 4 => rfl
      | 5 => rfl
      | 6 => exact (congrFun fi_at s).trans (pk_un hs)
      | 7 => rfl
      | 8 => rfl
      | 9 => rfl
      | 10 => rfl
      | 11 => rfl
      | 12 => rfl
      | 13 => rfl
      | 14 => rfl
      | n + 15 => rfl
  exact V_of rfl rfl rfl (yF_c (fi_ne (by decide))) (yW_c rfl (fun c h1 h2 => fi_ne (by omega))) rfl (yWb_c (fi_ne (by decide)) rfl) (yG_c (fi_ne (by decide))) (fi_ne (by decide)) rfl (yC_c (fi_ne (by decide))) (fi_ne (by decide)) (yS_c (fi_ne (by decide))) (yT_c rfl (fun c h1 h2 h3 => fi_ne (by omega))) hh (yRw_c (fi_ne (by decide)))
set_option maxHeartbeats 4000000 in
set_option maxRecDepth 100000 in
theorem V_31 (t : Nat) (x : Int32) : V (fl_i N 31 t x) W = m_rv (V N W) (fun r => va_up r t (upd (r t) 7 x)) := by
  have hh : yR (fl_i N 31 t x) = va_up (yR N) t (upd (yR N t) 7 x) := by
    funext s
    by_cases hs : s = t
    · subst hs
      rw [va_up_self]
      funext i
      match i with
      | 0 => rfl
      | 1 => rfl
      | 2 => rfl
      | 3 => rfl
      | 4 => rfl
      | 5 => rfl
      | 6 => rfl
      | 7 => exact (congrFun fi_at s).trans pk_us
      | 8 => rfl
      | 9 => rfl
      | 10 => rfl
      | 11 => rfl
      | 12 => rfl
      | 13 => rfl
      | 14 => rfl
      | n + 15 => rfl
    · rw [va_up_ne _ _ hs]
      funext i
      match i with
      | 0 => rfl
      | 1 => rfl
      | 2 => rfl
      | 3 => rfl
      | 4 => rfl
      | 5 => rfl
      | 6 => rfl
      | 7 => exact (congrFun fi_at s).trans (pk_un hs)
      | 8 => rfl
      | 9 => rfl
      | 10 => rfl
      | 11 => rfl
      | 12 => rfl
      | 13 => rfl
      | 14 => rfl
      | n + 15 => rfl
  exact V_of rfl rfl rfl (yF_c (fi_ne (by decide))) (yW_c rfl (fun c h1 h2 => fi_ne (by omega))) rfl (yWb_c (fi_ne (by decide)) rfl) (yG_c (fi_ne (by decide))) (fi_ne (by decide)) rfl (yC_c (fi_ne (by decide))) (fi_ne (by decide)) (yS_c (fi_ne (by decide))) (yT_c rfl (fun c h1 h2 h3 => fi_ne (by omega))) hh (yRw_c (fi_ne (by decide)))
set_option maxHeartbeats 4000000 in
set_option maxRecDepth 100000 in
theorem V_32 (t : Nat) (x : Int32) : V (fl_i N 32 t x) W = m_rv (V N W) (fun r => va_up r t (upd (r t) 8 x)) := by
  have hh : yR (fl_i N 32 t x) = va_up (yR N) t (upd (yR N t) 8 x) := by
    funext s
    by_cases hs : s = t
    · subst hs
      rw [va_up_self]
      funext i
      match i with
      | 0 => rfl
      | 1 => rfl
      | 2 => rfl
      | 3 => rfl
      | 4 => rfl
      | 5 => rfl
      | 6 => rfl
      | 7 => rfl
      | 8 => exact (congrFun fi_at s).trans pk_us
      | 9 => rfl
      | 10 => rfl
      | 11 => rfl
      | 12 => rfl
      | 13 => rfl
      | 14 => rfl
      | n + 15 => rfl
    · rw [va_up_ne _ _ hs]
      funext i
      match i with
      | 0 => rfl
      | 1 => rfl
      | 2 => rfl
      | 3 => rfl
      | 4 => rfl
      | 5 => rfl
      | 6 => rfl
      | 7 => rfl
      | 8 => exact (congrFun fi_at s).trans (pk_un hs)
      | 9 => rfl
      | 10 => rfl
      | 11 => rfl
      | 12 => rfl
      | 13 => rfl
      | 14 => rfl
      | n + 15 => rfl
  exact V_of rfl rfl rfl (yF_c (fi_ne (by decide))) (yW_c rfl (fun c h1 h2 => fi_ne (by omega))) rfl (yWb_c (fi_ne (by decide)) rfl) (yG_c (fi_ne (by decide))) (fi_ne (by decide)) rfl (yC_c (fi_ne (by decide))) (fi_ne (by decide)) (yS_c (fi_ne (by decide))) (yT_c rfl (fun c h1 h2 h3 => fi_ne (by omega))) hh (yRw_c (fi_ne (by decide)))
set_option maxHeartbeats 4000000 in
set_option maxRecDepth 100000 in
theorem V_33 (t : Nat) (x : Int32) : V (fl_i N 33 t x) W = m_rv (V N W) (fun r => va_up r t (upd (r t) 11 x)) := by
  have hh : yR (fl_i N 33 t x) = va_up (yR N) t (upd (yR N t) 11 x) := by
    funext s
    by_cases hs : s = t
    · subst hs
      rw [va_up_self]
      funext i
      match i with
      | 0 => rfl
      | 1 => rfl
      | 2 => rfl
      | 3 => rfl
      | 4 => rfl
      | 5 => rfl
      | 6 => rfl
      | 7 => rfl
      | 8 => rfl
      | 9 => rfl
      | 10 => rfl
      | 11 => exact (congrFun fi_at s).trans pk_us
      | 12 => rfl
      | 13 => rfl
      | 14 => rfl
      | n + 15 => rfl
    · rw [va_up_ne _ _ hs]
      funext i
      match i with
      | 0 => rfl
      | 1 => rfl
      | 2 => rfl
      | 3 => rfl
      | 4 => rfl
      | 5 => rfl
      | 6 => rfl
      | 7 => rfl
      | 8 => rfl
      | 9 => rfl
      | 10 => rfl
      | 11 => exact (congrFun fi_at s).trans (pk_un hs)
      | 12 => rfl
      | 13 => rfl
      | 14 => rfl
      | n + 15 => rfl
  exact V_of rfl rfl rfl (yF_c (fi_ne (by decide))) (yW_c rfl (fun c h1 h2 => fi_ne (by omega))) rfl (yWb_c (fi_ne (by decide)) rfl) (yG_c (fi_ne (by decide))) (fi_ne (by decide)) rfl (yC_c (fi_ne (by decide))) (fi_ne (by decide)) (yS_c (fi_ne (by decide))) (yT_c rfl (fun c h1 h2 h3 => fi_ne (by omega))) hh (yRw_c (fi_ne (by decide)))
set_option maxHeartbeats 4000000 in
set_option maxRecDepth 100000 in
theorem V_34 (t : Nat) (x : Int32) : V (fl_i N 34 t x) W = m_rv (V N W) (fun r => va_up r t (upd (r t) 10 x)) := by
  have hh : yR (fl_i N 34 t x) = va_up (yR N) t (upd (yR N t) 10 x) := by
    funext s
    by_cases hs : s = t
    · subst hs
      rw [va_up_self]
      funext i
      match i with
      | 0 => rfl
      | 1 => rfl
      | 2 => rfl
      | 3 => rfl
      | 4 => rfl
      | 5 => rfl
      | 6 => rfl
      | 7 => rfl
      | 8 => rfl
      | 9 => rfl
      | 10 => exact (congrFun fi_at s).trans pk_us
      | 11 => rfl
      | 12 => rfl
      | 13 => rfl
      | 14 => rfl
      | n + 15 => rfl
    · rw [va_up_ne _ _ hs]
      funext i
      match i with
      | 0 => rfl
      | 1 => rfl
      | 2 => rfl
      | 3 => rfl
      | 4 => rfl
      | 5 => rfl
      | 6 => rfl
      | 7 => rfl
      | 8 => rfl
      | 9 => rfl
      | 10 => exact (congrFun fi_at s).trans (pk_un hs)
      | 11 => rfl
      | 12 => rfl
      | 13 => rfl
      | 14 => rfl
      | n + 15 => rfl
  exact V_of rfl rfl rfl (yF_c (fi_ne (by decide))) (yW_c rfl (fun c h1 h2 => fi_ne (by omega))) rfl (yWb_c (fi_ne (by decide)) rfl) (yG_c (fi_ne (by decide))) (fi_ne (by decide)) rfl (yC_c (fi_ne (by decide))) (fi_ne (by decide)) (yS_c (fi_ne (by decide))) (yT_c rfl (fun c h1 h2 h3 => fi_ne (by omega))) hh (yRw_c (fi_ne (by decide)))
set_option maxHeartbeats 4000000 in
set_option maxRecDepth 100000 in
theorem V_35 (t : Nat) (x : Int32) : V (fl_i N 35 t x) W = m_rv (V N W) (fun r => va_up r t (upd (r t) 9 x)) := by
  have hh : yR (fl_i N 35 t x) = va_up (yR N) t (upd (yR N t) 9 x) := by
    funext s
    by_cases hs : s = t
    · subst hs
      rw [va_up_self]
      funext i
      match i with
      | 0 => rfl
      | 1 => rfl
      | 2 => rfl
      | 3 => rfl
      | 4 => rfl
      | 5 => rfl
      | 6 => rfl
      | 7 => rfl
      | 8 => rfl
      | 9 => exact (congrFun fi_at s).trans pk_us
      | 10 => rfl
      | 11 => rfl
      | 12 => rfl
      | 13 => rfl
      | 14 => rfl
      | n + 15 => rfl
    · rw [va_up_ne _ _ hs]
      funext i
      match i with
      | 0 => rfl
      | 1 => rfl
      | 2 => rfl
      | 3 => rfl
      | 4 => rfl
      | 5 => rfl
      | 6 => rfl
      | 7 => rfl
      | 8 => rfl
      | 9 => exact (congrFun fi_at s).trans (pk_un hs)
      | 10 => rfl
      | 11 => rfl
      | 12 => rfl
      | 13 => rfl
      | 14 => rfl
      | n + 15 => rfl
  exact V_of rfl rfl rfl (yF_c (fi_ne (by decide))) (yW_c rfl (fun c h1 h2 => fi_ne (by omega))) rfl (yWb_c (fi_ne (by decide)) rfl) (yG_c (fi_ne (by decide))) (fi_ne (by decide)) rfl (yC_c (fi_ne (by decide))) (fi_ne (by decide)) (yS_c (fi_ne (by decide))) (yT_c rfl (fun c h1 h2 h3 => fi_ne (by omega))) hh (yRw_c (fi_ne (by decide)))
set_option maxHeartbeats 4000000 in
set_option maxRecDepth 100000 in
theorem V_36 (t : Nat) (x : Int32) : V (fl_i N 36 t x) W = m_rv (V N W) (fun r => va_up r t (upd (r t) 12 x)) := by
  have hh : yR (fl_i N 36 t x) = va_up (yR N) t (upd (yR N t) 12 x) := by
    funext s
    by_cases hs : s = t
    · subst hs
      rw [va_up_self]
      funext i
      match i with
      | 0 => rfl
      | 1 => rfl
      | 2 => rfl
      | 3 => rfl
      | 4 => rfl
      | 5 => rfl
      | 6 => rfl
      | 7 => rfl
      | 8 => rfl
      | 9 => rfl
      | 10 => rfl
      | 11 => rfl
      | 12 => exact (congrFun fi_at s).trans pk_us
      | 13 => rfl
      | 14 => rfl
      | n + 15 => rfl
    · rw [va_up_ne _ _ hs]
      funext i
      match i with
      | 0 => rfl
      | 1 => rfl
      | 2 => rfl
      | 3 => rfl
      | 4 => rfl
      | 5 => rfl
      | 6 => rfl
      | 7 => rfl
      | 8 => rfl
      | 9 => rfl
      | 10 => rfl
      | 11 => rfl
      | 12 => exact (congrFun fi_at s).trans (pk_un hs)
      | 13 => rfl
      | 14 => rfl
      | n + 15 => rfl
  exact V_of rfl rfl rfl (yF_c (fi_ne (by decide))) (yW_c rfl (fun c h1 h2 => fi_ne (by omega))) rfl (yWb_c (fi_ne (by decide)) rfl) (yG_c (fi_ne (by decide))) (fi_ne (by decide)) rfl (yC_c (fi_ne (by decide))) (fi_ne (by decide)) (yS_c (fi_ne (by decide))) (yT_c rfl (fun c h1 h2 h3 => fi_ne (by omega))) hh (yRw_c (fi_ne (by decide)))
set_option maxHeartbeats 4000000 in
set_option maxRecDepth 100000 in
theorem V_37 (t : Nat) (x : Int32) : V (fl_i N 37 t x) W = m_rv (V N W) (fun r => va_up r t (upd (r t) 13 x)) := by
  have hh : yR (fl_i N 37 t x) = va_up (yR N) t (upd (yR N t) 13 x) := by
    funext s
    by_cases hs : s = t
    · subst hs
      rw [va_up_self]
      funext i
      match i with
      | 0 => rfl
      | 1 => rfl
      | 2 => rfl
      | 3 => rfl
      | 4 => rfl
      | 5 => rfl
      | 6 => rfl
      | 7 => rfl
      | 8 => rfl
      | 9 => rfl
      | 10 => rfl
      | 11 => rfl
      | 12 => rfl
      | 13 => exact (congrFun fi_at s).trans pk_us
      | 14 => rfl
      | n + 15 => rfl
    · rw [va_up_ne _ _ hs]
      funext i
      match i with
      | 0 => rfl
      | 1 => rfl
      | 2 => rfl
      | 3 => rfl
      | 4 => rfl
      | 5 => rfl
      | 6 => rfl
      | 7 => rfl
      | 8 => rfl
      | 9 => rfl
      | 10 => rfl
      | 11 => rfl
      | 12 => rfl
      | 13 => exact (congrFun fi_at s).trans (pk_un hs)
      | 14 => rfl
      | n + 15 => rfl
  exact V_of rfl rfl rfl (yF_c (fi_ne (by decide))) (yW_c rfl (fun c h1 h2 => fi_ne (by omega))) rfl (yWb_c (fi_ne (by decide)) rfl) (yG_c (fi_ne (by decide))) (fi_ne (by decide)) rfl (yC_c (fi_ne (by decide))) (fi_ne (by decide)) (yS_c (fi_ne (by decide))) (yT_c rfl (fun c h1 h2 h3 => fi_ne (by omega))) hh (yRw_c (fi_ne (by decide)))
set_option maxHeartbeats 4000000 in
set_option maxRecDepth 100000 in
theorem V_38 (t : Nat) (x : Int32) : V (fl_i N 38 t x) W = m_rv (V N W) (fun r => va_up r t (upd (r t) 14 x)) := by
  have hh : yR (fl_i N 38 t x) = va_up (yR N) t (upd (yR N t) 14 x) := by
    funext s
    by_cases hs : s = t
    · subst hs
      rw [va_up_self]
      funext i
      match i with
      | 0 => rfl
      | 1 => rfl
      | 2 => rfl
      | 3 => rfl
      | 4 => rfl
      | 5 => rfl
      | 6 => rfl
      | 7 => rfl
      | 8 => rfl
      | 9 => rfl
      | 10 => rfl
      | 11 => rfl
      | 12 => rfl
      | 13 => rfl
      | 14 => exact (congrFun fi_at s).trans pk_us
      | n + 15 => rfl
    · rw [va_up_ne _ _ hs]
      funext i
      match i with
      | 0 => rfl
      | 1 => rfl
      | 2 => rfl
      | 3 => rfl
      | 4 => rfl
      | 5 => rfl
      | 6 => rfl
      | 7 => rfl
      | 8 => rfl
      | 9 => rfl
      | 10 => rfl
      | 11 => rfl
      | 12 => rfl
      | 13 => rfl
      | 14 => exact (congrFun fi_at s).trans (pk_un hs)
      | n + 15 => rfl
  exact V_of rfl rfl rfl (yF_c (fi_ne (by decide))) (yW_c rfl (fun c h1 h2 => fi_ne (by omega))) rfl (yWb_c (fi_ne (by decide)) rfl) (yG_c (fi_ne (by decide))) (fi_ne (by decide)) rfl (yC_c (fi_ne (by decide))) (fi_ne (by decide)) (yS_c (fi_ne (by decide))) (yT_c rfl (fun c h1 h2 h3 => fi_ne (by omega))) hh (yRw_c (fi_ne (by decide)))
set_option maxHeartbeats 4000000 in
set_option maxRecDepth 100000 in
theorem V_10 (t : Nat) (x : Int32) : V (fl_i N 10 t x) W = m_tv (V N W) (fun r => va_up r t (upd (r t) 3 x)) := by
  have hh : yT (fl_i N 10 t x) = va_up (yT N) t (upd (yT N t) 3 x) := by
    funext s
    by_cases hs : s = t
    · subst hs
      rw [va_up_self]
      funext i
      match i with
      | 0 => rfl
      | 1 => rfl
      | 2 => rfl
      | 3 => exact (congrFun fi_at s).trans pk_us
      | 4 => rfl
      | 5 => rfl
      | 6 => rfl
      | 7 => rfl
      | 8 => rfl
      | 9 => rfl
      | 10 => rfl
      | 11 => rfl
      | 12 => rfl
      | 13 => rfl
      | 14 => rfl
      | n + 15 => rfl
    · rw [va_up_ne _ _ hs]
      funext i
      match i with
      | 0 => rfl
      | 1 => rfl
      | 2 => rfl
      | 3 => exact (congrFun fi_at s).trans (pk_un hs)
      | 4 => rfl
      | 5 => rfl
      | 6 => rfl
      | 7 => rfl
      | 8 => rfl
      | 9 => rfl
      | 10 => rfl
      | 11 => rfl
      | 12 => rfl
      | 13 => rfl
      | 14 => rfl
      | n + 15 => rfl
  exact V_of rfl rfl rfl (yF_c (fi_ne (by decide))) (yW_c rfl (fun c h1 h2 => fi_ne (by omega))) rfl (yWb_c (fi_ne (by decide)) rfl) (yG_c (fi_ne (by decide))) (fi_ne (by decide)) rfl (yC_c (fi_ne (by decide))) (fi_ne (by decide)) (yS_c (fi_ne (by decide))) hh (yR_c rfl (fun c h1 h2 h3 => fi_ne (by omega))) (yRw_c (fi_ne (by decide)))
set_option maxHeartbeats 4000000 in
set_option maxRecDepth 100000 in
theorem V_11 (t : Nat) (x : Int32) : V (fl_i N 11 t x) W = m_tv (V N W) (fun r => va_up r t (upd (r t) 4 x)) := by
  have hh : yT (fl_i N 11 t x) = va_up (yT N) t (upd (yT N t) 4 x) := by
    funext s
    by_cases hs : s = t
    · subst hs
      rw [va_up_self]
      funext i
      match i with
      | 0 => rfl
      | 1 => rfl
      | 2 => rfl
      | 3 => rfl
      | 4 => exact (congrFun fi_at s).trans pk_us
      | 5 => rfl
      | 6 => rfl
      | 7 => rfl
      | 8 => rfl
      | 9 => rfl
      | 10 => rfl
      | 11 => rfl
      | 12 => rfl
      | 13 => rfl
      | 14 => rfl
      | n + 15 => rfl
    · rw [va_up_ne _ _ hs]
      funext i
      match i with
      | 0 => rfl
      | 1 => rfl
      | 2 => rfl
      | 3 => rfl
      | 4 => exact (congrFun fi_at s).trans (pk_un hs)
      | 5 => rfl
      | 6 => rfl
      | 7 => rfl
      | 8 => rfl
      | 9 => rfl
      | 10 => rfl
      | 11 => rfl
      | 12 => rfl
      | 13 => rfl
      | 14 => rfl
      | n + 15 => rfl
  exact V_of rfl rfl rfl (yF_c (fi_ne (by decide))) (yW_c rfl (fun c h1 h2 => fi_ne (by omega))) rfl (yWb_c (fi_ne (by decide)) rfl) (yG_c (fi_ne (by decide))) (fi_ne (by decide)) rfl (yC_c (fi_ne (by decide))) (fi_ne (by decide)) (yS_c (fi_ne (by decide))) hh (yR_c rfl (fun c h1 h2 h3 => fi_ne (by omega))) (yRw_c (fi_ne (by decide)))
set_option maxHeartbeats 4000000 in
set_option maxRecDepth 100000 in
theorem V_12 (t : Nat) (x : Int32) : V (fl_i N 12 t x) W = m_tv (V N W) (fun r => va_up r t (upd (r t) 5 x)) := by
  have hh : yT (fl_i N 12 t x) = va_up (yT N) t (upd (yT N t) 5 x) := by
    funext s
    by_cases hs : s = t
    · subst hs
      rw [va_up_self]
      funext i
      match i with
      | 0 => rfl
      | 1 => rfl
      | 2 => rfl
      | 3 => rfl
      | 4 => rfl
      | 5 => exact (congrFun fi_at s).trans pk_us
      | 6 => rfl
      | 7 => rfl
      | 8 => rfl
      | 9 => rfl
      | 10 => rfl
      | 11 => rfl
      | 12 => rfl
      | 13 => rfl
      | 14 => rfl
      | n + 15 => rfl
    · rw [va_up_ne _ _ hs]
      funext i
      match i with
      | 0 => rfl
      | 1 => rfl
      | 2 => rfl
      | 3 => rfl
      | 4 => rfl
      | 5 => exact (congrFun fi_at s).trans (pk_un hs)
      | 6 => rfl
      | 7 => rfl
      | 8 => rfl
      | 9 => rfl
      | 10 => rfl
      | 11 => rfl
      | 12 => rfl
      | 13 => rfl
      | 14 => rfl
      | n + 15 => rfl
  exact V_of rfl rfl rfl (yF_c (fi_ne (by decide))) (yW_c rfl (fun c h1 h2 => fi_ne (by omega))) rfl (yWb_c (fi_ne (by decide)) rfl) (yG_c (fi_ne (by decide))) (fi_ne (by decide)) rfl (yC_c (fi_ne (by decide))) (fi_ne (by decide)) (yS_c (fi_ne (by decide))) hh (yR_c rfl (fun c h1 h2 h3 => fi_ne (by omega))) (yRw_c (fi_ne (by decide)))
set_option maxHeartbeats 4000000 in
set_option maxRecDepth 100000 in
theorem V_13 (t : Nat) (x : Int32) : V (fl_i N 13 t x) W = m_tv (V N W) (fun r => va_up r t (upd (r t) 14 x)) := by
  have hh : yT (fl_i N 13 t x) = va_up (yT N) t (upd (yT N t) 14 x) := by
    funext s
    by_cases hs : s = t
    · subst hs
      rw [va_up_self]
      funext i
      match i with
      | 0 => rfl
      | 1 => rfl
      | 2 => rfl
      | 3 => rfl
      | 4 => rfl
      | 5 => rfl
      | 6 => rfl
      | 7 => rfl
      | 8 => rfl
      | 9 => rfl
      | 10 => rfl
      | 11 => rfl
      | 12 => rfl
      | 13 => rfl
      | 14 => exact (congrFun fi_at s).trans pk_us
      | n + 15 => rfl
    · rw [va_up_ne _ _ hs]
      funext i
      match i with
      | 0 => rfl
      | 1 => rfl
      | 2 => rfl
      | 3 => rfl
      | 4 => rfl
      | 5 => rfl
      | 6 => rfl
      | 7 => rfl
      | 8 => rfl
      | 9 => rfl
      | 10 => rfl
      | 11 => rfl
      | 12 => rfl
      | 13 => rfl
      | 14 => exact (congrFun fi_at s).trans (pk_un hs)
      | n + 15 => rfl
  exact V_of rfl rfl rfl (yF_c (fi_ne (by decide))) (yW_c rfl (fun c h1 h2 => fi_ne (by omega))) rfl (yWb_c (fi_ne (by decide)) rfl) (yG_c (fi_ne (by decide))) (fi_ne (by decide)) rfl (yC_c (fi_ne (by decide))) (fi_ne (by decide)) (yS_c (fi_ne (by decide))) hh (yR_c rfl (fun c h1 h2 h3 => fi_ne (by omega))) (yRw_c (fi_ne (by decide)))
set_option maxHeartbeats 4000000 in
set_option maxRecDepth 100000 in
theorem V_14 (t : Nat) (x : Int32) : V (fl_i N 14 t x) W = m_tv (V N W) (fun r => va_up r t (upd (r t) 10 x)) := by
  have hh : yT (fl_i N 14 t x) = va_up (yT N) t (upd (yT N t) 10 x) := by
    funext s
    by_cases hs : s = t
    · subst hs
      rw [va_up_self]
      funext i
      match i with
      | 0 => rfl
      | 1 => rfl
      | 2 => rfl
      | 3 => rfl
      | 4 => rfl
      | 5 => rfl
      | 6 => rfl
      | 7 => rfl
      | 8 => rfl
      | 9 => rfl
      | 10 => exact (congrFun fi_at s).trans pk_us
      | 11 => rfl
      | 12 => rfl
      | 13 => rfl
      | 14 => rfl
      | n + 15 => rfl
    · rw [va_up_ne _ _ hs]
      funext i
      match i with
      | 0 => rfl
      | 1 => rfl
      | 2 => rfl
      | 3 => rfl
      | 4 => rfl
      | 5 => rfl
      | 6 => rfl
      | 7 => rfl
      | 8 => rfl
      | 9 => rfl
      | 10 => exact (congrFun fi_at s).trans (pk_un hs)
      | 11 => rfl
      | 12 => rfl
      | 13 => rfl
      | 14 => rfl
      | n + 15 => rfl
  exact V_of rfl rfl rfl (yF_c (fi_ne (by decide))) (yW_c rfl (fun c h1 h2 => fi_ne (by omega))) rfl (yWb_c (fi_ne (by decide)) rfl) (yG_c (fi_ne (by decide))) (fi_ne (by decide)) rfl (yC_c (fi_ne (by decide))) (fi_ne (by decide)) (yS_c (fi_ne (by decide))) hh (yR_c rfl (fun c h1 h2 h3 => fi_ne (by omega))) (yRw_c (fi_ne (by decide)))
set_option maxHeartbeats 4000000 in
set_option maxRecDepth 100000 in
theorem V_15 (t : Nat) (x : Int32) : V (fl_i N 15 t x) W = m_tv (V N W) (fun r => va_up r t (upd (r t) 6 x)) := by
  have hh : yT (fl_i N 15 t x) = va_up (yT N) t (upd (yT N t) 6 x) := by
    funext s
    by_cases hs : s = t
    · subst hs
      rw [va_up_self]
      funext i
      match i with
      | 0 => rfl
      | 1 => rfl
      | 2 => rfl
      | 3 => rfl
      | 4 => rfl
      | 5 => rfl
      | 6 => exact (congrFun fi_at s).trans pk_us
      | 7 => rfl
      | 8 => rfl
      | 9 => rfl
      | 10 => rfl
      | 11 => rfl
      | 12 => rfl
      | 13 => rfl
      | 14 => rfl
      | n + 15 => rfl
    · rw [va_up_ne _ _ hs]
      funext i
      match i with
      | 0 => rfl
      | 1 => rfl
      | 2 => rfl
      | 3 => rfl
      | 4 => rfl
      | 5 => rfl
      | 6 => exact (congrFun fi_at s).trans (pk_un hs)
      | 7 => rfl
      | 8 => rfl
      | 9 => rfl
      | 10 => rfl
      | 11 => rfl
      | 12 => rfl
      | 13 => rfl
      | 14 => rfl
      | n + 15 => rfl
  exact V_of rfl rfl rfl (yF_c (fi_ne (by decide))) (yW_c rfl (fun c h1 h2 => fi_ne (by omega))) rfl (yWb_c (fi_ne (by decide)) rfl) (yG_c (fi_ne (by decide))) (fi_ne (by decide)) rfl (yC_c (fi_ne (by decide))) (fi_ne (by decide)) (yS_c (fi_ne (by decide))) hh (yR_c rfl (fun c h1 h2 h3 => fi_ne (by omega))) (yRw_c (fi_ne (by decide)))
set_option maxHeartbeats 4000000 in
set_option maxRecDepth 100000 in
theorem V_16 (t : Nat) (x : Int32) : V (fl_i N 16 t x) W = m_tv (V N W) (fun r => va_up r t (upd (r t) 12 x)) := by
  have hh : yT (fl_i N 16 t x) = va_up (yT N) t (upd (yT N t) 12 x) := by
    funext s
    by_cases hs : s = t
    · subst hs
      rw [va_up_self]
      funext i
      match i with
      | 0 => rfl
      | 1 => rfl
      | 2 => rfl
      | 3 => rfl
      | 4 => rfl
      | 5 => rfl
      | 6 => rfl
      | 7 => rfl
      | 8 => rfl
      | 9 => rfl
      | 10 => rfl
      | 11 => rfl
      | 12 => exact (congrFun fi_at s).trans pk_us
      | 13 => rfl
      | 14 => rfl
      | n + 15 => rfl
    · rw [va_up_ne _ _ hs]
      funext i
      match i with
      | 0 => rfl
      | 1 => rfl
      | 2 => rfl
      | 3 => rfl
      | 4 => rfl
      | 5 => rfl
      | 6 => rfl
      | 7 => rfl
      | 8 => rfl
      | 9 => rfl
      | 10 => rfl
      | 11 => rfl
      | 12 => exact (congrFun fi_at s).trans (pk_un hs)
      | 13 => rfl
      | 14 => rfl
      | n + 15 => rfl
  exact V_of rfl rfl rfl (yF_c (fi_ne (by decide))) (yW_c rfl (fun c h1 h2 => fi_ne (by omega))) rfl (yWb_c (fi_ne (by decide)) rfl) (yG_c (fi_ne (by decide))) (fi_ne (by decide)) rfl (yC_c (fi_ne (by decide))) (fi_ne (by decide)) (yS_c (fi_ne (by decide))) hh (yR_c rfl (fun c h1 h2 h3 => fi_ne (by omega))) (yRw_c (fi_ne (by decide)))
set_option maxHeartbeats 4000000 in
set_option maxRecDepth 100000 in
theorem V_17 (t : Nat) (x : Int32) : V (fl_i N 17 t x) W = m_tv (V N W) (fun r => va_up r t (upd (r t) 11 x)) := by
  have hh : yT (fl_i N 17 t x) = va_up (yT N) t (upd (yT N t) 11 x) := by
    funext s
    by_cases hs : s = t
    · subst hs
      rw [va_up_self]
      funext i
      match i with
      | 0 => rfl
      | 1 => rfl
      | 2 => rfl
      | 3 => rfl
      | 4 => rfl
      | 5 => rfl
      | 6 => rfl
      | 7 => rfl
      | 8 => rfl
      | 9 => rfl
      | 10 => rfl
      | 11 => exact (congrFun fi_at s).trans pk_us
      | 12 => rfl
      | 13 => rfl
      | 14 => rfl
      | n + 15 => rfl
    · rw [va_up_ne _ _ hs]
      funext i
      match i with
      | 0 => rfl
      | 1 => rfl
      | 2 => rfl
      | 3 => rfl
      | 4 => rfl
      | 5 => rfl
      | 6 => rfl
      | 7 => rfl
      | 8 => rfl
      | 9 => rfl
      | 10 => rfl
      | 11 => exact (congrFun fi_at s).trans (pk_un hs)
      | 12 => rfl
      | 13 => rfl
      | 14 => rfl
      | n + 15 => rfl
  exact V_of rfl rfl rfl (yF_c (fi_ne (by decide))) (yW_c rfl (fun c h1 h2 => fi_ne (by omega))) rfl (yWb_c (fi_ne (by decide)) rfl) (yG_c (fi_ne (by decide))) (fi_ne (by decide)) rfl (yC_c (fi_ne (by decide))) (fi_ne (by decide)) (yS_c (fi_ne (by decide))) hh (yR_c rfl (fun c h1 h2 h3 => fi_ne (by omega))) (yRw_c (fi_ne (by decide)))
set_option maxHeartbeats 4000000 in
set_option maxRecDepth 100000 in
theorem V_18 (t : Nat) (x : Int32) : V (fl_i N 18 t x) W = m_tv (V N W) (fun r => va_up r t (upd (r t) 13 x)) := by
  have hh : yT (fl_i N 18 t x) = va_up (yT N) t (upd (yT N t) 13 x) := by
    funext s
    by_cases hs : s = t
    · subst hs
      rw [va_up_self]
      funext i
      match i with
      | 0 => rfl
      | 1 => rfl
      | 2 => rfl
      | 3 => rfl
      | 4 => rfl
      | 5 => rfl
      | 6 => rfl
      | 7 => rfl
      | 8 => rfl
      | 9 => rfl
      | 10 => rfl
      | 11 => rfl
      | 12 => rfl
      | 13 => exact (congrFun fi_at s).trans pk_us
      | 14 => rfl
      | n + 15 => rfl
    · rw [va_up_ne _ _ hs]
      funext i
      match i with
      | 0 => rfl
      | 1 => rfl
      | 2 => rfl
      | 3 => rfl
      | 4 => rfl
      | 5 => rfl
      | 6 => rfl
      | 7 => rfl
      | 8 => rfl
      | 9 => rfl
      | 10 => rfl
      | 11 => rfl
      | 12 => rfl
      | 13 => exact (congrFun fi_at s).trans (pk_un hs)
      | 14 => rfl
      | n + 15 => rfl
  exact V_of rfl rfl rfl (yF_c (fi_ne (by decide))) (yW_c rfl (fun c h1 h2 => fi_ne (by omega))) rfl (yWb_c (fi_ne (by decide)) rfl) (yG_c (fi_ne (by decide))) (fi_ne (by decide)) rfl (yC_c (fi_ne (by decide))) (fi_ne (by decide)) (yS_c (fi_ne (by decide))) hh (yR_c rfl (fun c h1 h2 h3 => fi_ne (by omega))) (yRw_c (fi_ne (by decide)))
set_option maxHeartbeats 4000000 in
set_option maxRecDepth 100000 in
theorem V_20 (t : Nat) (x : Int32) : V (fl_i N 20 t x) W = m_tv (V N W) (fun r => va_up r t (upd (r t) 7 x)) := by
  have hh : yT (fl_i N 20 t x) = va_up (yT N) t (upd (yT N t) 7 x) := by
    funext s
    by_cases hs : s = t
    · subst hs
      rw [va_up_self]
      funext i
      match i with
      | 0 => rfl
      | 1 => rfl
      | 2 => rfl
      | 3 => rfl
      | 4 => rfl
      | 5 => rfl
      | 6 => rfl
      | 7 => exact (congrFun fi_at s).trans pk_us
      | 8 => rfl
      | 9 => rfl
      | 10 => rfl
      | 11 => rfl
      | 12 => rfl
      | 13 => rfl
      | 14 => rfl
      | n + 15 => rfl
    · rw [va_up_ne _ _ hs]
      funext i
      match i with
      | 0 => rfl
      | 1 => rfl
      | 2 => rfl
      | 3 => rfl
      | 4 => rfl
      | 5 => rfl
      | 6 => rfl
      | 7 => exact (congrFun fi_at s).trans (pk_un hs)
      | 8 => rfl
      | 9 => rfl
      | 10 => rfl
      | 11 => rfl
      | 12 => rfl
      | 13 => rfl
      | 14 => rfl
      | n + 15 => rfl
  exact V_of rfl rfl rfl (yF_c (fi_ne (by decide))) (yW_c rfl (fun c h1 h2 => fi_ne (by omega))) rfl (yWb_c (fi_ne (by decide)) rfl) (yG_c (fi_ne (by decide))) (fi_ne (by decide)) rfl (yC_c (fi_ne (by decide))) (fi_ne (by decide)) (yS_c (fi_ne (by decide))) hh (yR_c rfl (fun c h1 h2 h3 => fi_ne (by omega))) (yRw_c (fi_ne (by decide)))
set_option maxHeartbeats 4000000 in
set_option maxRecDepth 100000 in
theorem V_21 (t : Nat) (x : Int32) : V (fl_i N 21 t x) W = m_tv (V N W) (fun r => va_up r t (upd (r t) 8 x)) := by
  have hh : yT (fl_i N 21 t x) = va_up (yT N) t (upd (yT N t) 8 x) := by
    funext s
    by_cases hs : s = t
    · subst hs
      rw [va_up_self]
      funext i
      match i with
      | 0 => rfl
      | 1 => rfl
      | 2 => rfl
      | 3 => rfl
      | 4 => rfl
      | 5 => rfl
      | 6 => rfl
      | 7 => rfl
      | 8 => exact (congrFun fi_at s).trans pk_us
      | 9 => rfl
      | 10 => rfl
      | 11 => rfl
      | 12 => rfl
      | 13 => rfl
      | 14 => rfl
      | n + 15 => rfl
    · rw [va_up_ne _ _ hs]
      funext i
      match i with
      | 0 => rfl
      | 1 => rfl
      | 2 => rfl
      | 3 => rfl
      | 4 => rfl
      | 5 => rfl
      | 6 => rfl
      | 7 => rfl
      | 8 => exact (congrFun fi_at s).trans (pk_un hs)
      | 9 => rfl
      | 10 => rfl
      | 11 => rfl
      | 12 => rfl
      | 13 => rfl
      | 14 => rfl
      | n + 15 => rfl
  exact V_of rfl rfl rfl (yF_c (fi_ne (by decide))) (yW_c rfl (fun c h1 h2 => fi_ne (by omega))) rfl (yWb_c (fi_ne (by decide)) rfl) (yG_c (fi_ne (by decide))) (fi_ne (by decide)) rfl (yC_c (fi_ne (by decide))) (fi_ne (by decide)) (yS_c (fi_ne (by decide))) hh (yR_c rfl (fun c h1 h2 h3 => fi_ne (by omega))) (yRw_c (fi_ne (by decide)))
set_option maxHeartbeats 4000000 in
set_option maxRecDepth 100000 in
theorem V_22 (t : Nat) (x : Int32) : V (fl_i N 22 t x) W = m_tv (V N W) (fun r => va_up r t (upd (r t) 9 x)) := by
  have hh : yT (fl_i N 22 t x) = va_up (yT N) t (upd (yT N t) 9 x) := by
    funext s
    by_cases hs : s = t
    · subst hs
      rw [va_up_self]
      funext i
      match i with
      | 0 => rfl
      | 1 => rfl
      | 2 => rfl
      | 3 => rfl
      | 4 => rfl
      | 5 => rfl
      | 6 => rfl
      | 7 => rfl
      | 8 => rfl
      | 9 => exact (congrFun fi_at s).trans pk_us
      | 10 => rfl
      | 11 => rfl
      | 12 => rfl
      | 13 => rfl
      | 14 => rfl
      | n + 15 => rfl
    · rw [va_up_ne _ _ hs]
      funext i
      match i with
      | 0 => rfl
      | 1 => rfl
      | 2 => rfl
      | 3 => rfl
      | 4 => rfl
      | 5 => rfl
      | 6 => rfl
      | 7 => rfl
      | 8 => rfl
      | 9 => exact (congrFun fi_at s).trans (pk_un hs)
      | 10 => rfl
      | 11 => rfl
      | 12 => rfl
      | 13 => rfl
      | 14 => rfl
      | n + 15 => rfl
  exact V_of rfl rfl rfl (yF_c (fi_ne (by decide))) (yW_c rfl (fun c h1 h2 => fi_ne (by omega))) rfl (yWb_c (fi_ne (by decide)) rfl) (yG_c (fi_ne (by decide))) (fi_ne (by decide)) rfl (yC_c (fi_ne (by decide))) (fi_ne (by decide)) (yS_c (fi_ne (by decide))) hh (yR_c rfl (fun c h1 h2 h3 => fi_ne (by omega))) (yRw_c (fi_ne (by decide)))
set_option maxHeartbeats 4000000 in
set_option maxRecDepth 100000 in
theorem V_4 (t : Nat) (x : Int32) : V (fl_i N 4 t x) W = m_wf (V N W) (fun r => va_up r t (upd (r t) 4 x)) := by
  have hh : yW (fl_i N 4 t x) = va_up (yW N) t (upd (yW N t) 4 x) := by
    funext s
    by_cases hs : s = t
    · subst hs
      rw [va_up_self]
      funext i
      match i with
      | 0 => rfl
      | 1 => rfl
      | 2 => rfl
      | 3 => rfl
      | 4 => exact (congrFun fi_at s).trans pk_us
      | 5 => rfl
      | 6 => rfl
      | 7 => rfl
      | n + 8 => rfl
    · rw [va_up_ne _ _ hs]
      funext i
      match i with
      | 0 => rfl
      | 1 => rfl
      | 2 => rfl
      | 3 => rfl
      | 4 => exact (congrFun fi_at s).trans (pk_un hs)
      | 5 => rfl
      | 6 => rfl
      | 7 => rfl
      | n + 8 => rfl
  exact V_of rfl rfl rfl (yF_c (fi_ne (by decide))) hh rfl (yWb_c (fi_ne (by decide)) rfl) (yG_c (fi_ne (by decide))) (fi_ne (by decide)) rfl (yC_c (fi_ne (by decide))) (fi_ne (by decide)) (yS_c (fi_ne (by decide))) (yT_c rfl (fun c h1 h2 h3 => fi_ne (by omega))) (yR_c rfl (fun c h1 h2 h3 => fi_ne (by omega))) (yRw_c (fi_ne (by decide)))
set_option maxHeartbeats 4000000 in
set_option maxRecDepth 100000 in
theorem V_5 (t : Nat) (x : Int32) : V (fl_i N 5 t x) W = m_wf (V N W) (fun r => va_up r t (upd (r t) 5 x)) := by
  have hh : yW (fl_i N 5 t x) = va_up (yW N) t (upd (yW N t) 5 x) := by
    funext s
    by_cases hs : s = t
    · subst hs
      rw [va_up_self]
      funext i
      match i with
      | 0 => rfl
      | 1 => rfl
      | 2 => rfl
      | 3 => rfl
      | 4 => rfl
      | 5 => exact (congrFun fi_at s).trans pk_us
      | 6 => rfl
      | 7 => rfl
      | n + 8 => rfl
    · rw [va_up_ne _ _ hs]
      funext i
      match i with
      | 0 => rfl
      | 1 => rfl
      | 2 => rfl
      | 3 => rfl
      | 4 => rfl
      | 5 => exact (congrFun fi_at s).trans (pk_un hs)
      | 6 => rfl
      | 7 => rfl
      | n + 8 => rfl
  exact V_of rfl rfl rfl (yF_c (fi_ne (by decide))) hh rfl (yWb_c (fi_ne (by decide)) rfl) (yG_c (fi_ne (by decide))) (fi_ne (by decide)) rfl (yC_c (fi_ne (by decide))) (fi_ne (by decide)) (yS_c (fi_ne (by decide))) (yT_c rfl (fun c h1 h2 h3 => fi_ne (by omega))) (yR_c rfl (fun c h1 h2 h3 => fi_ne (by omega))) (yRw_c (fi_ne (by decide)))
set_option maxHeartbeats 4000000 in
set_option maxRecDepth 100000 in
theorem V_6 (t : Nat) (x : Int32) : V (fl_i N 6 t x) W = m_wf (V N W) (fun r => va_up r t (upd (r t) 6 x)) := by
  have hh : yW (fl_i N 6 t x) = va_up (yW N) t (upd (yW N t) 6 x) := by
    funext s
    by_cases hs : s = t
    · subst hs
      rw [va_up_self]
      funext i
      match i with
      | 0 => rfl
      | 1 => rfl
      | 2 => rfl
      | 3 => rfl
      | 4 => rfl
      | 5 => rfl
      | 6 => exact (congrFun fi_at s).trans pk_us
      | 7 => rfl
      | n + 8 => rfl
    · rw [va_up_ne _ _ hs]
      funext i
      match i with
      | 0 => rfl
      | 1 => rfl
      | 2 => rfl
      | 3 => rfl
      | 4 => rfl
      | 5 => rfl
      | 6 => exact (congrFun fi_at s).trans (pk_un hs)
      | 7 => rfl
      | n + 8 => rfl
  exact V_of rfl rfl rfl (yF_c (fi_ne (by decide))) hh rfl (yWb_c (fi_ne (by decide)) rfl) (yG_c (fi_ne (by decide))) (fi_ne (by decide)) rfl (yC_c (fi_ne (by decide))) (fi_ne (by decide)) (yS_c (fi_ne (by decide))) (yT_c rfl (fun c h1 h2 h3 => fi_ne (by omega))) (yR_c rfl (fun c h1 h2 h3 => fi_ne (by omega))) (yRw_c (fi_ne (by decide)))
set_option maxHeartbeats 4000000 in
set_option maxRecDepth 100000 in
theorem V_7 (t : Nat) (x : Int32) : V (fl_i N 7 t x) W = m_wf (V N W) (fun r => va_up r t (upd (r t) 7 x)) := by
  have hh : yW (fl_i N 7 t x) = va_up (yW N) t (upd (yW N t) 7 x) := by
    funext s
    by_cases hs : s = t
    · subst hs
      rw [va_up_self]
      funext i
      match i with
      | 0 => rfl
      | 1 => rfl
      | 2 => rfl
      | 3 => rfl
      | 4 => rfl
      | 5 => rfl
      | 6 => rfl
      | 7 => exact (congrFun fi_at s).trans pk_us
      | n + 8 => rfl
    · rw [va_up_ne _ _ hs]
      funext i
      match i with
      | 0 => rfl
      | 1 => rfl
      | 2 => rfl
      | 3 => rfl
      | 4 => rfl
      | 5 => rfl
      | 6 => rfl
      | 7 => exact (congrFun fi_at s).trans (pk_un hs)
      | n + 8 => rfl
  exact V_of rfl rfl rfl (yF_c (fi_ne (by decide))) hh rfl (yWb_c (fi_ne (by decide)) rfl) (yG_c (fi_ne (by decide))) (fi_ne (by decide)) rfl (yC_c (fi_ne (by decide))) (fi_ne (by decide)) (yS_c (fi_ne (by decide))) (yT_c rfl (fun c h1 h2 h3 => fi_ne (by omega))) (yR_c rfl (fun c h1 h2 h3 => fi_ne (by omega))) (yRw_c (fi_ne (by decide)))
set_option maxHeartbeats 4000000 in
set_option maxRecDepth 100000 in
theorem V_0_28 (x : Int32) : V (fl_i N 0 28 x) W = m_gv (V N W) (fun r => upd r 3 x) := by
  exact V_of rfl rfl rfl (yF_c (fi_ne (by decide))) (yW_c rfl (fun c h1 h2 => fi_ne (by omega))) rfl (yWb_c (fi_ne (by decide)) rfl) (by funext i; exact (match i with | 0 => rfl | 1 => rfl | 2 => rfl | 3 => rfl | 4 => rfl | 5 => rfl | 6 => rfl | 7 => rfl | 8 => rfl | 9 => rfl | 10 => rfl | n + 11 => rfl)) (fi_ne (by decide)) rfl (by funext i; exact (match i with | 0 => rfl | 1 => rfl | 2 => rfl | n + 3 => rfl)) (fi_ne (by decide)) (yS_c (fi_ne (by decide))) (yT_c rfl (fun c h1 h2 h3 => fi_ne (by omega))) (yR_c rfl (fun c h1 h2 h3 => fi_ne (by omega))) (yRw_c (fi_ne (by decide)))
set_option maxHeartbeats 4000000 in
set_option maxRecDepth 100000 in
theorem V_0_29 (x : Int32) : V (fl_i N 0 29 x) W = m_gv (V N W) (fun r => upd r 4 x) := by
  exact V_of rfl rfl rfl (yF_c (fi_ne (by decide))) (yW_c rfl (fun c h1 h2 => fi_ne (by omega))) rfl (yWb_c (fi_ne (by decide)) rfl) (by funext i; exact (match i with | 0 => rfl | 1 => rfl | 2 => rfl | 3 => rfl | 4 => rfl | 5 => rfl | 6 => rfl | 7 => rfl | 8 => rfl | 9 => rfl | 10 => rfl | n + 11 => rfl)) (fi_ne (by decide)) rfl (by funext i; exact (match i with | 0 => rfl | 1 => rfl | 2 => rfl | n + 3 => rfl)) (fi_ne (by decide)) (yS_c (fi_ne (by decide))) (yT_c rfl (fun c h1 h2 h3 => fi_ne (by omega))) (yR_c rfl (fun c h1 h2 h3 => fi_ne (by omega))) (yRw_c (fi_ne (by decide)))
set_option maxHeartbeats 4000000 in
set_option maxRecDepth 100000 in
theorem V_0_30 (x : Int32) : V (fl_i N 0 30 x) W = m_gv (V N W) (fun r => upd r 5 x) := by
  exact V_of rfl rfl rfl (yF_c (fi_ne (by decide))) (yW_c rfl (fun c h1 h2 => fi_ne (by omega))) rfl (yWb_c (fi_ne (by decide)) rfl) (by funext i; exact (match i with | 0 => rfl | 1 => rfl | 2 => rfl | 3 => rfl | 4 => rfl | 5 => rfl | 6 => rfl | 7 => rfl | 8 => rfl | 9 => rfl | 10 => rfl | n + 11 => rfl)) (fi_ne (by decide)) rfl (by funext i; exact (match i with | 0 => rfl | 1 => rfl | 2 => rfl | n + 3 => rfl)) (fi_ne (by decide)) (yS_c (fi_ne (by decide))) (yT_c rfl (fun c h1 h2 h3 => fi_ne (by omega))) (yR_c rfl (fun c h1 h2 h3 => fi_ne (by omega))) (yRw_c (fi_ne (by decide)))
set_option maxHeartbeats 4000000 in
set_option maxRecDepth 100000 in
theorem V_0_33 (x : Int32) : V (fl_i N 0 33 x) W = m_gv (V N W) (fun r => upd r 9 x) := by
  exact V_of rfl rfl rfl (yF_c (fi_ne (by decide))) (yW_c rfl (fun c h1 h2 => fi_ne (by omega))) rfl (yWb_c (fi_ne (by decide)) rfl) (by funext i; exact (match i with | 0 => rfl | 1 => rfl | 2 => rfl | 3 => rfl | 4 => rfl | 5 => rfl | 6 => rfl | 7 => rfl | 8 => rfl | 9 => rfl | 10 => rfl | n + 11 => rfl)) (fi_ne (by decide)) rfl (by funext i; exact (match i with | 0 => rfl | 1 => rfl | 2 => rfl | n + 3 => rfl)) (fi_ne (by decide)) (yS_c (fi_ne (by decide))) (yT_c rfl (fun c h1 h2 h3 => fi_ne (by omega))) (yR_c rfl (fun c h1 h2 h3 => fi_ne (by omega))) (yRw_c (fi_ne (by decide)))
set_option maxHeartbeats 4000000 in
set_option maxRecDepth 100000 in
theorem V_0_34 (x : Int32) : V (fl_i N 0 34 x) W = m_gv (V N W) (fun r => upd r 6 x) := by
  exact V_of rfl rfl rfl (yF_c (fi_ne (by decide))) (yW_c rfl (fun c h1 h2 => fi_ne (by omega))) rfl (yWb_c (fi_ne (by decide)) rfl) (by funext i; exact (match i with | 0 => rfl | 1 => rfl | 2 => rfl | 3 => rfl | 4 => rfl | 5 => rfl | 6 => rfl | 7 => rfl | 8 => rfl | 9 => rfl | 10 => rfl | n + 11 => rfl)) (fi_ne (by decide)) rfl (by funext i; exact (match i with | 0 => rfl | 1 => rfl | 2 => rfl | n + 3 => rfl)) (fi_ne (by decide)) (yS_c (fi_ne (by decide))) (yT_c rfl (fun c h1 h2 h3 => fi_ne (by omega))) (yR_c rfl (fun c h1 h2 h3 => fi_ne (by omega))) (yRw_c (fi_ne (by decide)))
set_option maxHeartbeats 4000000 in
set_option maxRecDepth 100000 in
theorem V_0_35 (x : Int32) : V (fl_i N 0 35 x) W = m_gv (V N W) (fun r => upd r 10 x) := by
  exact V_of rfl rfl rfl (yF_c (fi_ne (by decide))) (yW_c rfl (fun c h1 h2 => fi_ne (by omega))) rfl (yWb_c (fi_ne (by decide)) rfl) (by funext i; exact (match i with | 0 => rfl | 1 => rfl | 2 => rfl | 3 => rfl | 4 => rfl | 5 => rfl | 6 => rfl | 7 => rfl | 8 => rfl | 9 => rfl | 10 => rfl | n + 11 => rfl)) (fi_ne (by decide)) rfl (by funext i; exact (match i with | 0 => rfl | 1 => rfl | 2 => rfl | n + 3 => rfl)) (fi_ne (by decide)) (yS_c (fi_ne (by decide))) (yT_c rfl (fun c h1 h2 h3 => fi_ne (by omega))) (yR_c rfl (fun c h1 h2 h3 => fi_ne (by omega))) (yRw_c (fi_ne (by decide)))
set_option maxHeartbeats 4000000 in
set_option maxRecDepth 100000 in
theorem V_0_36 (x : Int32) : V (fl_i N 0 36 x) W = m_gv (V N W) (fun r => upd r 7 x) := by
  exact V_of rfl rfl rfl (yF_c (fi_ne (by decide))) (yW_c rfl (fun c h1 h2 => fi_ne (by omega))) rfl (yWb_c (fi_ne (by decide)) rfl) (by funext i; exact (match i with | 0 => rfl | 1 => rfl | 2 => rfl | 3 => rfl | 4 => rfl | 5 => rfl | 6 => rfl | 7 => rfl | 8 => rfl | 9 => rfl | 10 => rfl | n + 11 => rfl)) (fi_ne (by decide)) rfl (by funext i; exact (match i with | 0 => rfl | 1 => rfl | 2 => rfl | n + 3 => rfl)) (fi_ne (by decide)) (yS_c (fi_ne (by decide))) (yT_c rfl (fun c h1 h2 h3 => fi_ne (by omega))) (yR_c rfl (fun c h1 h2 h3 => fi_ne (by omega))) (yRw_c (fi_ne (by decide)))
set_option maxHeartbeats 4000000 in
set_option maxRecDepth 100000 in
theorem V_0_37 (x : Int32) : V (fl_i N 0 37 x) W = m_gv (V N W) (fun r => upd r 8 x) := by
  exact V_of rfl rfl rfl (yF_c (fi_ne (by decide))) (yW_c rfl (fun c h1 h2 => fi_ne (by omega))) rfl (yWb_c (fi_ne (by decide)) rfl) (by funext i; exact (match i with | 0 => rfl | 1 => rfl | 2 => rfl | 3 => rfl | 4 => rfl | 5 => rfl | 6 => rfl | 7 => rfl | 8 => rfl | 9 => rfl | 10 => rfl | n + 11 => rfl)) (fi_ne (by decide)) rfl (by funext i; exact (match i with | 0 => rfl | 1 => rfl | 2 => rfl | n + 3 => rfl)) (fi_ne (by decide)) (yS_c (fi_ne (by decide))) (yT_c rfl (fun c h1 h2 h3 => fi_ne (by omega))) (yR_c rfl (fun c h1 h2 h3 => fi_ne (by omega))) (yRw_c (fi_ne (by decide)))
set_option maxHeartbeats 4000000 in
set_option maxRecDepth 100000 in
theorem V_0_38 (x : Int32) : V (fl_i N 0 38 x) W = m_cv (V N W) (fun r => upd r 0 x) := by
  exact V_of rfl rfl rfl (yF_c (fi_ne (by decide))) (yW_c rfl (fun c h1 h2 => fi_ne (by omega))) rfl (yWb_c (fi_ne (by decide)) rfl) (by funext i; exact (match i with | 0 => rfl | 1 => rfl | 2 => rfl | 3 => rfl | 4 => rfl | 5 => rfl | 6 => rfl | 7 => rfl | 8 => rfl | 9 => rfl | 10 => rfl | n + 11 => rfl)) (fi_ne (by decide)) rfl (by funext i; exact (match i with | 0 => rfl | 1 => rfl | 2 => rfl | n + 3 => rfl)) (fi_ne (by decide)) (yS_c (fi_ne (by decide))) (yT_c rfl (fun c h1 h2 h3 => fi_ne (by omega))) (yR_c rfl (fun c h1 h2 h3 => fi_ne (by omega))) (yRw_c (fi_ne (by decide)))
set_option maxHeartbeats 4000000 in
set_option maxRecDepth 100000 in
theorem V_0_39 (x : Int32) : V (fl_i N 0 39 x) W = m_cv (V N W) (fun r => upd r 1 x) := by
  exact V_of rfl rfl rfl (yF_c (fi_ne (by decide))) (yW_c rfl (fun c h1 h2 => fi_ne (by omega))) rfl (yWb_c (fi_ne (by decide)) rfl) (by funext i; exact (match i with | 0 => rfl | 1 => rfl | 2 => rfl | 3 => rfl | 4 => rfl | 5 => rfl | 6 => rfl | 7 => rfl | 8 => rfl | 9 => rfl | 10 => rfl | n + 11 => rfl)) (fi_ne (by decide)) rfl (by funext i; exact (match i with | 0 => rfl | 1 => rfl | 2 => rfl | n + 3 => rfl)) (fi_ne (by decide)) (yS_c (fi_ne (by decide))) (yT_c rfl (fun c h1 h2 h3 => fi_ne (by omega))) (yR_c rfl (fun c h1 h2 h3 => fi_ne (by omega))) (yRw_c (fi_ne (by decide)))
set_option maxHeartbeats 4000000 in
set_option maxRecDepth 100000 in
theorem V_0_40 (x : Int32) : V (fl_i N 0 40 x) W = m_cv (V N W) (fun r => upd r 2 x) := by
  exact V_of rfl rfl rfl (yF_c (fi_ne (by decide))) (yW_c rfl (fun c h1 h2 => fi_ne (by omega))) rfl (yWb_c (fi_ne (by decide)) rfl) (by funext i; exact (match i with | 0 => rfl | 1 => rfl | 2 => rfl | 3 => rfl | 4 => rfl | 5 => rfl | 6 => rfl | 7 => rfl | 8 => rfl | 9 => rfl | 10 => rfl | n + 11 => rfl)) (fi_ne (by decide)) rfl (by funext i; exact (match i with | 0 => rfl | 1 => rfl | 2 => rfl | n + 3 => rfl)) (fi_ne (by decide)) (yS_c (fi_ne (by decide))) (yT_c rfl (fun c h1 h2 h3 => fi_ne (by omega))) (yR_c rfl (fun c h1 h2 h3 => fi_ne (by omega))) (yRw_c (fi_ne (by decide)))
set_option maxHeartbeats 4000000 in
set_option maxRecDepth 100000 in
theorem V_0_3 (x : Int32) : V (fl_i N 0 3 x) W = m_tm (V N W) (fun _ => x) := by
  exact V_of rfl rfl rfl (yF_c (fi_ne (by decide))) (yW_c rfl (fun c h1 h2 => fi_ne (by omega))) rfl (yWb_c (fi_ne (by decide)) rfl) (by funext i; exact (match i with | 0 => rfl | 1 => rfl | 2 => rfl | 3 => rfl | 4 => rfl | 5 => rfl | 6 => rfl | 7 => rfl | 8 => rfl | 9 => rfl | 10 => rfl | n + 11 => rfl)) (fi_ne (by decide)) rfl (by funext i; exact (match i with | 0 => rfl | 1 => rfl | 2 => rfl | n + 3 => rfl)) (fi_ne (by decide)) (yS_c (fi_ne (by decide))) (yT_c rfl (fun c h1 h2 h3 => fi_ne (by omega))) (yR_c rfl (fun c h1 h2 h3 => fi_ne (by omega))) (yRw_c (fi_ne (by decide)))
set_option maxHeartbeats 4000000 in
set_option maxRecDepth 100000 in
theorem V_0_13 (x : Int32) : V (fl_i N 0 13 x) W = m_cn (V N W) (fun _ => x) := by
  exact V_of rfl rfl rfl (yF_c (fi_ne (by decide))) (yW_c rfl (fun c h1 h2 => fi_ne (by omega))) rfl (yWb_c (fi_ne (by decide)) rfl) (by funext i; exact (match i with | 0 => rfl | 1 => rfl | 2 => rfl | 3 => rfl | 4 => rfl | 5 => rfl | 6 => rfl | 7 => rfl | 8 => rfl | 9 => rfl | 10 => rfl | n + 11 => rfl)) (fi_ne (by decide)) rfl (by funext i; exact (match i with | 0 => rfl | 1 => rfl | 2 => rfl | n + 3 => rfl)) (fi_ne (by decide)) (yS_c (fi_ne (by decide))) (yT_c rfl (fun c h1 h2 h3 => fi_ne (by omega))) (yR_c rfl (fun c h1 h2 h3 => fi_ne (by omega))) (yRw_c (fi_ne (by decide)))
set_option maxHeartbeats 4000000 in
set_option maxRecDepth 100000 in
theorem V_0_4 (x : Int32) : V (fl_i N 0 4 x) W = V N W := by
  exact V_of rfl rfl rfl (yF_c (fi_ne (by decide))) (yW_c rfl (fun c h1 h2 => fi_ne (by omega))) rfl (yWb_c (fi_ne (by decide)) rfl) (by funext i; exact (match i with | 0 => rfl | 1 => rfl | 2 => rfl | 3 => rfl | 4 => rfl | 5 => rfl | 6 => rfl | 7 => rfl | 8 => rfl | 9 => rfl | 10 => rfl | n + 11 => rfl)) (fi_ne (by decide)) rfl (by funext i; exact (match i with | 0 => rfl | 1 => rfl | 2 => rfl | n + 3 => rfl)) (fi_ne (by decide)) (yS_c (fi_ne (by decide))) (yT_c rfl (fun c h1 h2 h3 => fi_ne (by omega))) (yR_c rfl (fun c h1 h2 h3 => fi_ne (by omega))) (yRw_c (fi_ne (by decide)))
set_option maxHeartbeats 4000000 in
set_option maxRecDepth 100000 in
theorem V_24 (t : Nat) (x : Int32) : V (fl_i N 24 t x) W = m_gz (V N W) (fun r => upd r t x) := by
  exact V_of rfl rfl rfl (yF_c (fi_ne (by decide))) (yW_c rfl (fun c h1 h2 => fi_ne (by omega))) rfl (yWb_c (fi_ne (by decide)) rfl) (yG_c (fi_ne (by decide))) fi_at rfl (yC_c (fi_ne (by decide))) (fi_ne (by decide)) (yS_c (fi_ne (by decide))) (yT_c rfl (fun c h1 h2 h3 => fi_ne (by omega))) (yR_c rfl (fun c h1 h2 h3 => fi_ne (by omega))) (yRw_c (fi_ne (by decide)))
set_option maxHeartbeats 4000000 in
set_option maxRecDepth 100000 in
theorem V_39 (t : Nat) (x : Int32) : V (fl_i N 39 t x) W = m_st (V N W) (fun r => upd r t x) := by
  exact V_of rfl rfl rfl (yF_c (fi_ne (by decide))) (yW_c rfl (fun c h1 h2 => fi_ne (by omega))) rfl (yWb_c (fi_ne (by decide)) rfl) (yG_c (fi_ne (by decide))) (fi_ne (by decide)) rfl (yC_c (fi_ne (by decide))) fi_at (yS_c (fi_ne (by decide))) (yT_c rfl (fun c h1 h2 h3 => fi_ne (by omega))) (yR_c rfl (fun c h1 h2 h3 => fi_ne (by omega))) (yRw_c (fi_ne (by decide)))
set_option maxHeartbeats 4000000 in
set_option maxRecDepth 100000 in
theorem V_9 (t : Nat) (x : Int32) : V (fl_i N 9 t x) W = V N W := by
  exact V_of rfl rfl rfl (yF_c (fi_ne (by decide))) (yW_c rfl (fun c h1 h2 => fi_ne (by omega))) rfl (yWb_c (fi_ne (by decide)) rfl) (yG_c (fi_ne (by decide))) (fi_ne (by decide)) rfl (yC_c (fi_ne (by decide))) (fi_ne (by decide)) (yS_c (fi_ne (by decide))) (yT_c rfl (fun c h1 h2 h3 => fi_ne (by omega))) (yR_c rfl (fun c h1 h2 h3 => fi_ne (by omega))) (yRw_c (fi_ne (by decide)))
set_option maxHeartbeats 4000000 in
set_option maxRecDepth 100000 in
theorem V_19 (t : Nat) (x : Int32) : V (fl_i N 19 t x) W = V N W := by
  exact V_of rfl rfl rfl (yF_c (fi_ne (by decide))) (yW_c rfl (fun c h1 h2 => fi_ne (by omega))) rfl (yWb_c (fi_ne (by decide)) rfl) (yG_c (fi_ne (by decide))) (fi_ne (by decide)) rfl (yC_c (fi_ne (by decide))) (fi_ne (by decide)) (yS_c (fi_ne (by decide))) (yT_c rfl (fun c h1 h2 h3 => fi_ne (by omega))) (yR_c rfl (fun c h1 h2 h3 => fi_ne (by omega))) (yRw_c (fi_ne (by decide)))
set_option maxHeartbeats 4000000 in
set_option maxRecDepth 100000 in
theorem V_28 (t : Nat) {k : Nat} (hk : k < 16) (x : Int32) : V (fl_i N 28 (16 * t + k) x) W = m_rw (V N W) (fun r => va_up r t (upd (r t) k x)) := by
  have hh : yRw (fl_i N 28 (16 * t + k) x) = va_up (yRw N) t (upd (yRw N t) k x) := by
    funext s i
    unfold yRw
    rw [fi_at]
    unfold upd va_up
    by_cases hi : i < 16
    · by_cases hs : s = t
      · subst hs
        rw [if_pos hi, if_pos rfl]
        by_cases hk : i = k
        · rw [if_pos (by omega), if_pos hk]
        · rw [if_neg (by omega), if_neg hk]; exact (if_pos hi).symm
      · rw [if_pos hi, if_neg (by omega), if_neg hs]; exact (if_pos hi).symm
    · rw [if_neg hi]
      by_cases hs : s = t
      · rw [if_pos hs, if_neg (by omega)]; exact (if_neg hi).symm
      · rw [if_neg hs]; exact (if_neg hi).symm
  exact V_of rfl rfl rfl (yF_c (fi_ne (by decide))) (yW_c rfl (fun c h1 h2 => fi_ne (by omega))) rfl (yWb_c (fi_ne (by decide)) rfl) (yG_c (fi_ne (by decide))) (fi_ne (by decide)) rfl (yC_c (fi_ne (by decide))) (fi_ne (by decide)) (yS_c (fi_ne (by decide))) (yT_c rfl (fun c h1 h2 h3 => fi_ne (by omega))) (yR_c rfl (fun c h1 h2 h3 => fi_ne (by omega))) hh
set_option maxHeartbeats 4000000 in
set_option maxRecDepth 100000 in
theorem V_8 (t : Nat) {k : Nat} (hk : k < 16) (x : Int32) : V (fl_i N 8 (16 * t + k) x) W = m_fs (V N W) (fun r => va_up r t (upd (r t) k x)) := by
  have hh : yF (fl_i N 8 (16 * t + k) x) = va_up (yF N) t (upd (yF N t) k x) := by
    funext s i
    unfold yF
    rw [fi_at]
    unfold upd va_up
    by_cases hi : i < 16
    · by_cases hs : s = t
      · subst hs
        rw [if_pos hi, if_pos rfl]
        by_cases hk : i = k
        · rw [if_pos (by omega), if_pos hk]
        · rw [if_neg (by omega), if_neg hk]; exact (if_pos hi).symm
      · rw [if_pos hi, if_neg (by omega), if_neg hs]; exact (if_pos hi).symm
    · rw [if_neg hi]
      by_cases hs : s = t
      · rw [if_pos hs, if_neg (by omega)]; exact (if_neg hi).symm
      · rw [if_neg hs]; exact (if_neg hi).symm
  exact V_of rfl rfl rfl hh (yW_c rfl (fun c h1 h2 => fi_ne (by omega))) rfl (yWb_c (fi_ne (by decide)) rfl) (yG_c (fi_ne (by decide))) (fi_ne (by decide)) rfl (yC_c (fi_ne (by decide))) (fi_ne (by decide)) (yS_c (fi_ne (by decide))) (yT_c rfl (fun c h1 h2 h3 => fi_ne (by omega))) (yR_c rfl (fun c h1 h2 h3 => fi_ne (by omega))) (yRw_c (fi_ne (by decide)))
set_option maxHeartbeats 4000000 in
set_option maxRecDepth 100000 in
theorem V_40 (t : Nat) {k : Nat} (hk : k < 16) (x : Int32) : V (fl_i N 40 (16 * t + k) x) W = m_sw (V N W) (fun r => va_up r t (upd (r t) k x)) := by
  have hh : yS (fl_i N 40 (16 * t + k) x) = va_up (yS N) t (upd (yS N t) k x) := by
    funext s i
    unfold yS
    rw [fi_at]
    unfold upd va_up
    by_cases hi : i < 16
    · by_cases hs : s = t
      · subst hs
        rw [if_pos hi, if_pos rfl]
        by_cases hk : i = k
        · rw [if_pos (by omega), if_pos hk]
        · rw [if_neg (by omega), if_neg hk]; exact (if_pos hi).symm
      · rw [if_pos hi, if_neg (by omega), if_neg hs]; exact (if_pos hi).symm
    · rw [if_neg hi]
      by_cases hs : s = t
      · rw [if_pos hs, if_neg (by omega)]; exact (if_neg hi).symm
      · rw [if_neg hs]; exact (if_neg hi).symm
  exact V_of rfl rfl rfl (yF_c (fi_ne (by decide))) (yW_c rfl (fun c h1 h2 => fi_ne (by omega))) rfl (yWb_c (fi_ne (by decide)) rfl) (yG_c (fi_ne (by decide))) (fi_ne (by decide)) rfl (yC_c (fi_ne (by decide))) (fi_ne (by decide)) hh (yT_c rfl (fun c h1 h2 h3 => fi_ne (by omega))) (yR_c rfl (fun c h1 h2 h3 => fi_ne (by omega))) (yRw_c (fi_ne (by decide)))
set_option maxHeartbeats 4000000 in
set_option maxRecDepth 100000 in
theorem V_l23 (t : Nat) (x : Int64) : V (fl_l N 23 t x) W = m_gi (V N W) (fun r => vp_updL r t x) := by
  exact V_of rfl rfl rfl rfl rfl (yWg_c (fl1_ne (by decide))) (yWb_c rfl (fl1_ne (by decide))) rfl rfl fl1_at rfl rfl rfl rfl rfl rfl
set_option maxHeartbeats 4000000 in
set_option maxRecDepth 100000 in
theorem V_l3 (t : Nat) (x : Int64) : V (fl_l N 3 t x) W = m_wg (V N W) (fun r => va_up r t (vp_updL (r t) 3 x)) := by
  have hh : yWg (fl_l N 3 t x) = va_up (yWg N) t (vp_updL (yWg N t) 3 x) := by
    funext s
    by_cases hs : s = t
    · subst hs
      rw [va_up_self]
      funext i
      match i with
      | 0 => rfl
      | 1 => rfl
      | 2 => rfl
      | 3 => exact (congrFun fl1_at s).trans (if_pos rfl)
      | n + 4 => rfl
    · rw [va_up_ne _ _ hs]
      funext i
      match i with
      | 0 => rfl
      | 1 => rfl
      | 2 => rfl
      | 3 => exact (congrFun fl1_at s).trans (if_neg hs)
      | n + 4 => rfl
  exact V_of rfl rfl rfl rfl rfl hh (yWb_c rfl (fl1_ne (by decide))) rfl rfl (fl1_ne (by decide)) rfl rfl rfl rfl rfl rfl
end
