/-! which cells of the reference a step leaves as they are -/
def K (S Z : Nat → Bool) (N N' : fl_M) : Prop := (∀ c, S c = true → N'.1 c = N.1 c) ∧ (∀ j, Z j = true → N'.1 0 j = N.1 0 j) ∧ N'.2 = N.2
def Sc (c : Nat) : Bool := decide (1 ≤ c ∧ c < 25)
def Zc (j : Nat) : Bool := decide (j ≠ 4 ∧ j ≠ 38 ∧ j ≠ 39 ∧ j ≠ 40)
def Sg (c : Nat) : Bool := decide (1 ≤ c ∧ c < 13 ∨ 25 ≤ c)
def Zg (j : Nat) : Bool := decide (j = 0 ∨ j = 1 ∨ j = 3 ∨ j = 13 ∨ j = 38 ∨ j = 39 ∨ j = 40)
section
variable {S Z : Nat → Bool} {N A B : fl_M}
set_option maxHeartbeats 4000000 in
set_option maxRecDepth 100000 in
theorem K.r : K S Z N N := ⟨fun _ _ => rfl, fun _ _ => rfl, rfl⟩
set_option maxHeartbeats 4000000 in
set_option maxRecDepth 100000 in
theorem K.t (h : K S Z N A) (h' : K S Z A B) : K S Z N B := ⟨fun c hc => (h'.1 c hc).trans (h.1 c hc), fun j hj => (h'.2.1 j hj).trans (h.2.1 j hj), h'.2.2.trans h.2.2⟩
set_option maxHeartbeats 4000000 in
set_option maxRecDepth 100000 in
theorem K.i {c j : Nat} {x : Int32} (hs : S c = false) (h0 : 0 ≠ c) (h : K S Z N A) : K S Z N (fl_i A c j x) := ⟨fun q hq => (fi_ne (fun e => by rw [e, hs] at hq; exact absurd hq (by decide))).trans (h.1 q hq), fun i hi => (congrFun (fi_ne h0) i).trans (h.2.1 i hi), h.2.2⟩
set_option maxHeartbeats 4000000 in
set_option maxRecDepth 100000 in
theorem K.z {j : Nat} {x : Int32} (h0 : S 0 = false) (hz : Z j = false) (h : K S Z N A) : K S Z N (fl_i A 0 j x) := ⟨fun q hq => (fi_ne (fun e => by rw [e, h0] at hq; exact absurd hq (by decide))).trans (h.1 q hq), fun i hi => (fi_0 (fun e => by rw [e, hz] at hi; exact absurd hi (by decide))).trans (h.2.1 i hi), h.2.2⟩
set_option maxHeartbeats 4000000 in
set_option maxRecDepth 100000 in
theorem K.ite {p : Prop} [Decidable p] (ha : K S Z N A) (hb : K S Z N B) : K S Z N (if p then A else B) := by
  split
  · exact ha
  · exact hb
end
section
variable {N M : fl_M}
set_option maxHeartbeats 4000000 in
set_option maxRecDepth 100000 in
theorem k_fin (h : K Sc Zc N M) (y0 : Int32) (y1 : Int32) : K Sc Zc N (g_MD_finish M y0 y1) := (K.i (by decide) (by decide) (K.i (by decide) (by decide) (K.i (by decide) (by decide) (K.i (by decide) (by decide) (K.i (by decide) (by decide) (K.i (by decide) (by decide) h))))))
set_option maxHeartbeats 4000000 in
set_option maxRecDepth 100000 in
theorem k_clo (h : K Sc Zc N M) (y0 : Int32) : K Sc Zc N (g_MD_close M y0) := (K.z (by decide) (by decide) (K.i (by decide) (by decide) (K.i (by decide) (by decide) (K.i (by decide) (by decide) h))))
set_option maxHeartbeats 4000000 in
set_option maxRecDepth 100000 in
theorem K.ite2 {S Z : Nat → Bool} {p : Prop} [Decidable p] {a b : Int32 × fl_M} (ha : K S Z N a.2) (hb : K S Z N b.2) : K S Z N (if p then a else b).2 := by
  split
  · exact ha
  · exact hb
set_option maxHeartbeats 4000000 in
set_option maxRecDepth 100000 in
theorem k_tak (h : K Sc Zc N M) (y0 y1 y2 y3 : Int32) : K Sc Zc N (g_MD_takes M y0 y1 y2 y3).2 := (K.ite2 (K.ite2 h (K.ite2 h (K.ite2 h (K.ite2 (K.i (by decide) (by decide) (K.i (by decide) (by decide) (K.i (by decide) (by decide) (K.i (by decide) (by decide) h)))) h)))) (K.ite2 (K.ite2 h (K.ite2 (K.i (by decide) (by decide) (K.i (by decide) (by decide) (K.i (by decide) (by decide) (K.i (by decide) (by decide) h)))) h)) (K.ite2 (K.ite2 h (K.ite2 (K.i (by decide) (by decide) (K.i (by decide) (by decide) (K.i (by decide) (by decide) h))) h)) (K.ite2 h (K.ite2 h (K.ite2 h (K.ite2 (K.i (by decide) (by decide) (K.i (by decide) (by decide) (K.i (by decide) (by decide) (K.i (by decide) (by decide) h)))) h)))))))
set_option maxHeartbeats 4000000 in
set_option maxRecDepth 100000 in
theorem k_L153 (x1 x2 : Int32) (M0 : fl_M) : ∀ k i (M : fl_M), K Sc Zc N M → K Sc Zc N (g_MD_whole_L153 M0 x1 x2 k i M) := by
  intro k
  induction k with
  | zero => intro i M h; exact h
  | succ k ih => intro i M h; exact ih _ _ (K.i (by decide) (by decide) h)
set_option maxHeartbeats 4000000 in
set_option maxRecDepth 100000 in
theorem k_who (h : K Sc Zc N M) (y0 y1 : Int32) : K Sc Zc N (g_MD_whole M y0 y1) := K.ite h (K.ite (K.ite (K.ite (k_fin (k_L153 _ _ _ _ _ _ (K.i (by decide) (by decide) h)) _ _) (k_fin h _ _)) (k_fin h _ _)) (K.ite (K.i (by decide) (by decide) (K.i (by decide) (by decide) (K.i (by decide) (by decide) h))) h))
set_option maxHeartbeats 4000000 in
set_option maxRecDepth 100000 in
theorem k_yPdu (h : K Sc Zc N M) (y0 y1 y2 y3 : Int32) : K Sc Zc N (yPdu M y0 y1 y2 y3) := (K.ite h (K.ite h (K.ite (K.ite h (K.ite (K.ite (K.i (by decide) (by decide) (K.i (by decide) (by decide) (K.i (by decide) (by decide) h))) (K.ite (k_clo (K.i (by decide) (by decide) (K.i (by decide) (by decide) h)) _) (K.i (by decide) (by decide) (K.i (by decide) (by decide) h)))) (K.ite (K.i (by decide) (by decide) (K.i (by decide) (by decide) (K.i (by decide) (by decide) h))) (K.ite (k_clo (K.i (by decide) (by decide) (K.i (by decide) (by decide) h)) _) (K.i (by decide) (by decide) (K.i (by decide) (by decide) h)))))) (K.ite (K.ite (K.ite (K.ite (K.ite (k_tak (K.i (by decide) (by decide) (K.i (by decide) (by decide) (K.i (by decide) (by decide) h))) _ _ _ _) (k_who (k_tak (K.i (by decide) (by decide) (K.i (by decide) (by decide) (K.i (by decide) (by decide) h))) _ _ _ _) _ _)) (K.ite (K.i (by decide) (by decide) (K.i (by decide) (by decide) h)) (K.i (by decide) (by decide) (K.i (by decide) (by decide) h)))) (K.ite (K.ite (k_fin (K.i (by decide) (by decide) (K.i (by decide) (by decide) (K.i (by decide) (by decide) h))) _ _) (K.ite (K.i (by decide) (by decide) (K.i (by decide) (by decide) h)) (K.i (by decide) (by decide) (K.i (by decide) (by decide) h)))) (K.ite (K.ite (K.i (by decide) (by decide) (K.i (by decide) (by decide) (K.i (by decide) (by decide) h))) (K.ite (k_tak (K.i (by decide) (by decide) (K.i (by decide) (by decide) (K.i (by decide) (by decide) h))) _ _ _ _) (k_who (k_tak (K.i (by decide) (by decide) (K.i (by decide) (by decide) (K.i (by decide) (by decide) h))) _ _ _ _) _ _))) (K.ite (K.i (by decide) (by decide) (K.i (by decide) (by decide) h)) (K.i (by decide) (by decide) (K.i (by decide) (by decide) h)))))) (K.ite (K.ite (k_fin (K.i (by decide) (by decide) (K.i (by decide) (by decide) (K.i (by decide) (by decide) h))) _ _) (K.ite (K.i (by decide) (by decide) (K.i (by decide) (by decide) (K.i (by decide) (by decide) h))) (K.ite (k_tak (K.i (by decide) (by decide) (K.i (by decide) (by decide) (K.i (by decide) (by decide) h))) _ _ _ _) (k_who (k_tak (K.i (by decide) (by decide) (K.i (by decide) (by decide) (K.i (by decide) (by decide) h))) _ _ _ _) _ _)))) (K.ite (K.i (by decide) (by decide) (K.i (by decide) (by decide) h)) (K.i (by decide) (by decide) (K.i (by decide) (by decide) h))))) (K.ite (K.ite (K.ite (K.ite (k_tak (K.i (by decide) (by decide) (K.i (by decide) (by decide) (K.i (by decide) (by decide) h))) _ _ _ _) (k_who (k_tak (K.i (by decide) (by decide) (K.i (by decide) (by decide) (K.i (by decide) (by decide) h))) _ _ _ _) _ _)) (K.ite (K.i (by decide) (by decide) (K.i (by decide) (by decide) h)) (K.i (by decide) (by decide) (K.i (by decide) (by decide) h)))) (K.ite (K.ite (k_fin (K.i (by decide) (by decide) (K.i (by decide) (by decide) (K.i (by decide) (by decide) h))) _ _) (K.ite (K.i (by decide) (by decide) (K.i (by decide) (by decide) h)) (K.i (by decide) (by decide) (K.i (by decide) (by decide) h)))) (K.ite (K.ite (K.i (by decide) (by decide) (K.i (by decide) (by decide) (K.i (by decide) (by decide) h))) (K.ite (k_tak (K.i (by decide) (by decide) (K.i (by decide) (by decide) (K.i (by decide) (by decide) h))) _ _ _ _) (k_who (k_tak (K.i (by decide) (by decide) (K.i (by decide) (by decide) (K.i (by decide) (by decide) h))) _ _ _ _) _ _))) (K.ite (K.i (by decide) (by decide) (K.i (by decide) (by decide) h)) (K.i (by decide) (by decide) (K.i (by decide) (by decide) h)))))) (K.ite (K.ite (k_fin (K.i (by decide) (by decide) (K.i (by decide) (by decide) (K.i (by decide) (by decide) h))) _ _) (K.ite (K.i (by decide) (by decide) (K.i (by decide) (by decide) (K.i (by decide) (by decide) h))) (K.ite (k_tak (K.i (by decide) (by decide) (K.i (by decide) (by decide) (K.i (by decide) (by decide) h))) _ _ _ _) (k_who (k_tak (K.i (by decide) (by decide) (K.i (by decide) (by decide) (K.i (by decide) (by decide) h))) _ _ _ _) _ _)))) (K.ite (K.i (by decide) (by decide) (K.i (by decide) (by decide) h)) (K.i (by decide) (by decide) (K.i (by decide) (by decide) h)))))))))
set_option maxHeartbeats 4000000 in
set_option maxRecDepth 100000 in
theorem k_pdu (h : K Sc Zc N M) (y0 : Int64) : K Sc Zc N (g_MD_craftPdu M y0) := by rw [yPdu_eq]; exact k_yPdu h _ _ _ _
set_option maxHeartbeats 4000000 in
set_option maxRecDepth 100000 in
theorem k_frm (h : K Sc Zc N M) (y0 : Int64) : K Sc Zc N (g_MD_craftFrame M y0) := by
  rw [yFr_eq]
  exact (K.ite (K.ite (K.ite (k_pdu (K.z (by decide) (by decide) (K.z (by decide) (by decide) h)) _) (K.ite (K.ite (K.z (by decide) (by decide) h) h) (K.z (by decide) (by decide) h))) h) (K.ite (k_pdu h _) (K.ite (K.z (by decide) (by decide) (K.z (by decide) (by decide) h)) (K.ite (K.ite (K.z (by decide) (by decide) (K.z (by decide) (by decide) h)) h) h))))
set_option maxHeartbeats 4000000 in
set_option maxRecDepth 100000 in
theorem k_cck (h : K Sc Zc N M) (y0 : Int32) : K Sc Zc N (g_MD_craftClocks M y0) := (K.ite (K.ite (k_clo (K.i (by decide) (by decide) (K.i (by decide) (by decide) h)) _) (K.ite (K.i (by decide) (by decide) h) (K.ite (K.ite (k_fin (K.i (by decide) (by decide) (K.i (by decide) (by decide) h)) _ _) (K.i (by decide) (by decide) (K.i (by decide) (by decide) (K.i (by decide) (by decide) (K.i (by decide) (by decide) (K.i (by decide) (by decide) (K.i (by decide) (by decide) h))))))) (K.i (by decide) (by decide) (K.i (by decide) (by decide) h))))) (K.ite (K.ite (K.ite (k_clo (K.i (by decide) (by decide) h) _) (K.i (by decide) (by decide) (K.i (by decide) (by decide) (K.i (by decide) (by decide) (K.i (by decide) (by decide) (K.i (by decide) (by decide) h)))))) (K.i (by decide) (by decide) h)) h))
set_option maxHeartbeats 4000000 in
set_option maxRecDepth 100000 in
theorem k_c29 : ∀ k i (M : fl_M), K Sc Zc N M → K Sc Zc N (g_MD_tick_L29 k i M) := by
  intro k
  induction k with
  | zero => intro i M h; exact h
  | succ k ih => intro i M h; exact ih _ _ (k_cck h _)
set_option maxHeartbeats 4000000 in
set_option maxRecDepth 100000 in
theorem k_ale (h : K Sg Zg N M) (y0 : Int32) : K Sg Zg N (g_MD_alert M y0) := (K.z (by decide) (by decide) (K.z (by decide) (by decide) (K.z (by decide) (by decide) (K.z (by decide) (by decide) (K.z (by decide) (by decide) (K.z (by decide) (by decide) (K.z (by decide) (by decide) h)))))))
set_option maxHeartbeats 4000000 in
set_option maxRecDepth 100000 in
theorem k_mar (h : K Sg Zg N M) : K Sg Zg N (g_MD_markAll M) := ⟨fun c hc => (mark_c M (fun e => by rw [e] at hc; exact absurd hc (by decide))).trans (h.1 c hc), fun j hj => (congrFun (mark_c M (by decide)) j).trans (h.2.1 j hj), (mark_2 M).trans h.2.2⟩
set_option maxHeartbeats 4000000 in
set_option maxRecDepth 100000 in
theorem k_arF {A : fl_M} (h : K Sg Zg N A) (y0 y1 : Int32) : K Sg Zg N (arF y0 y1 A) := (K.ite (K.z (by decide) (by decide) h) (K.ite h (K.ite (K.ite (K.ite (k_ale h _) (K.z (by decide) (by decide) (K.z (by decide) (by decide) (k_mar (K.z (by decide) (by decide) h))))) (K.z (by decide) (by decide) (K.z (by decide) (by decide) (k_mar (K.z (by decide) (by decide) h))))) (K.ite (K.ite (K.ite (k_ale h _) (K.z (by decide) (by decide) (K.z (by decide) (by decide) (k_mar (K.z (by decide) (by decide) h))))) (K.z (by decide) (by decide) (K.z (by decide) (by decide) (k_mar (K.z (by decide) (by decide) h))))) h))))
set_option maxHeartbeats 4000000 in
set_option maxRecDepth 100000 in
theorem k_act (h : K Sg Zg N M) (y0 y1 y2 : Int32) : K Sg Zg N (g_MD_activeReport M y0 y1 y2) := by
  rw [ar_eq]
  exact K.ite (K.ite (K.ite (k_arF (K.z (by decide) (by decide) h) _ _) (k_arF (K.z (by decide) (by decide) (K.z (by decide) (by decide) (K.z (by decide) (by decide) h))) _ _)) (k_ale h _)) (k_ale h _)
set_option maxHeartbeats 4000000 in
set_option maxRecDepth 100000 in
theorem k_rep (h : K Sg Zg N M) (y0 : Int64) : K Sg Zg N (g_MD_groundReport M y0) := (K.ite (K.ite (K.ite (k_act h _ _ _) (K.ite (K.ite (K.z (by decide) (by decide) (K.z (by decide) (by decide) h)) (K.z (by decide) (by decide) (K.z (by decide) (by decide) h))) (K.ite (K.z (by decide) (by decide) (K.z (by decide) (by decide) h)) h))) (K.ite (k_act h _ _ _) (K.ite (K.ite (K.z (by decide) (by decide) (K.z (by decide) (by decide) h)) (K.z (by decide) (by decide) (K.z (by decide) (by decide) h))) (K.ite h h)))) (K.ite (K.ite (k_act h _ _ _) (K.ite (K.ite (K.z (by decide) (by decide) (K.z (by decide) (by decide) h)) (K.z (by decide) (by decide) (K.z (by decide) (by decide) h))) (K.z (by decide) (by decide) (K.z (by decide) (by decide) h)))) (K.ite (k_act h _ _ _) (K.ite (K.ite (K.z (by decide) (by decide) (K.z (by decide) (by decide) h)) (K.z (by decide) (by decide) (K.z (by decide) (by decide) h))) (K.z (by decide) (by decide) (K.z (by decide) (by decide) h))))))
set_option maxHeartbeats 4000000 in
set_option maxRecDepth 100000 in
theorem k_end (h : K Sg Zg N M) (y0 : Int32) (y1 : Int32) : K Sg Zg N (g_MD_end M y0 y1) := (K.z (by decide) (by decide) (K.i (by decide) (by decide) (K.i (by decide) (by decide) (K.i (by decide) (by decide) (K.i (by decide) (by decide) h)))))
set_option maxHeartbeats 4000000 in
set_option maxRecDepth 100000 in
theorem k_due (h : K Sg Zg N M) (y0 : Int32) : K Sg Zg N (g_MD_makeEndDue M y0) := (K.i (by decide) (by decide) (K.i (by decide) (by decide) h))
set_option maxHeartbeats 4000000 in
set_option maxRecDepth 100000 in
theorem k_yGp (h : K Sg Zg N M) (y0 y1 y2 : Int32) : K Sg Zg N (yGp M y0 y1 y2) := (K.ite h (K.ite h (K.ite (K.ite (K.ite (K.i (by decide) (by decide) (K.i (by decide) (by decide) h)) (K.i (by decide) (by decide) h)) (K.ite (K.ite (K.ite (K.i (by decide) (by decide) (K.i (by decide) (by decide) h)) (K.i (by decide) (by decide) h)) (K.i (by decide) (by decide) h)) (K.ite (K.ite (k_end (K.i (by decide) (by decide) (K.i (by decide) (by decide) h)) _ _) (K.i (by decide) (by decide) (K.i (by decide) (by decide) h))) (K.i (by decide) (by decide) h)))) h)))
set_option maxHeartbeats 4000000 in
set_option maxRecDepth 100000 in
theorem k_gpd (h : K Sg Zg N M) (y0 : Int64) : K Sg Zg N (g_MD_groundPdu M y0) := by rw [yGp_eq]; exact k_yGp h _ _ _
set_option maxHeartbeats 4000000 in
set_option maxRecDepth 100000 in
theorem k_fcF (h : K Sg Zg N M) : K Sg Zg N (fcF M) := (K.ite (K.ite (K.ite (k_ale (K.z (by decide) (by decide) h) _) (K.ite (k_mar (K.z (by decide) (by decide) (K.z (by decide) (by decide) (K.z (by decide) (by decide) h)))) (K.z (by decide) (by decide) (K.z (by decide) (by decide) (K.z (by decide) (by decide) h))))) (K.ite (k_mar (K.z (by decide) (by decide) (K.z (by decide) (by decide) (K.z (by decide) (by decide) h)))) (K.z (by decide) (by decide) (K.z (by decide) (by decide) (K.z (by decide) (by decide) h))))) (K.z (by decide) (by decide) h))
set_option maxHeartbeats 4000000 in
set_option maxRecDepth 100000 in
theorem k_fck (h : K Sg Zg N M) : K Sg Zg N (g_MD_frameClocks M) := by rw [fc_eq]; exact K.ite (K.ite h (k_fcF h)) (k_fcF h)
set_option maxHeartbeats 4000000 in
set_option maxRecDepth 100000 in
theorem k_gck (h : K Sg Zg N M) (y0 : Int32) : K Sg Zg N (g_MD_groundClocks M y0) := (K.ite (K.ite (K.ite (K.ite h (K.ite (K.ite (k_end (K.i (by decide) (by decide) h) _ _) (k_due (K.i (by decide) (by decide) (K.i (by decide) (by decide) h)) _)) (K.i (by decide) (by decide) h))) (K.ite (k_end (K.i (by decide) (by decide) h) _ _) (K.i (by decide) (by decide) h))) h) h)
set_option maxHeartbeats 4000000 in
set_option maxRecDepth 100000 in
theorem k_g79 : ∀ k i (M : fl_M), K Sg Zg N M → K Sg Zg N (g_MD_tick_L79 k i M) := by
  intro k
  induction k with
  | zero => intro i M h; exact h
  | succ k ih => intro i M h; exact ih _ _ (k_gck h _)
end
