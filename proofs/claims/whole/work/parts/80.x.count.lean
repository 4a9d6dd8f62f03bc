/-! how many became ended or closed: the reference's count and the class's -/
set_option maxHeartbeats 4000000 in
set_option maxRecDepth 100000 in
theorem sI_c {p q : Nat → Int32} : ∀ k i, (∀ j, i ≤ j → j < i + k → p j = q j) → sI p i k = sI q i k := by
  intro k
  induction k with
  | zero => intro i _; rfl
  | succ k ih =>
    intro i h
    show p i + sI p (i + 1) k = q i + sI q (i + 1) k
    rw [h i (Nat.le_refl _) (by omega), ih (i + 1) (fun j h1 h2 => h j (by omega) (by omega))]
set_option maxHeartbeats 4000000 in
set_option maxRecDepth 100000 in
theorem sI_up {p q : Nat → Int32} {t : Nat} : ∀ k i, i ≤ t → t < i + k → (∀ j, j ≠ t → i ≤ j → j < i + k → q j = p j) → sI q i k + p t = sI p i k + q t := by
  intro k
  induction k with
  | zero => intro i h1 h2; omega
  | succ k ih =>
    intro i h1 h2 h
    show (q i + sI q (i + 1) k) + p t = (p i + sI p (i + 1) k) + q t
    by_cases e : t = i
    · subst e
      rw [sI_c k (t + 1) (fun j g1 g2 => h j (by omega) (by omega) (by omega)), Int32.add_comm (q t), Int32.add_comm (p t), Int32.add_assoc, Int32.add_assoc, Int32.add_comm (q t)]
    · rw [h i (fun c => e c.symm) (Nat.le_refl _) (by omega), Int32.add_assoc, Int32.add_assoc, ih (i + 1) (by omega) (by omega) (fun j g0 g1 g2 => h j g0 (by omega) (by omega))]
def sE (v : Vw) (c : Nat) : Int32 := sI (fun t => en (v.tv t)) 0 c
def sC (v : Vw) : Int32 := sI (fun t => cl (v.rv t)) 0 16
set_option maxHeartbeats 4000000 in
set_option maxRecDepth 100000 in
theorem cc_L (v : Vw) : ∀ k i cc, i + k ≤ 16 → g_CT_countClosed_L4 (XX v) k i cc = cc + sI (fun t => cl (v.rv t)) i k := by
  intro k
  induction k with
  | zero => intro i cc _; exact (Int32.add_zero cc).symm
  | succ k ih =>
    intro i cc hi
    unfold g_CT_countClosed_L4
    rw [ih _ _ (by omega), ih _ _ (by omega), clN (show i < 16 by omega), X_rv _ (show i < 16 by omega)]
    show (if v.rv i 2 = 3 then _ else _) = cc + ((if v.rv i 2 = 3 then 1 else 0) + _)
    split
    · rw [Int32.add_assoc]; rfl
    · rw [Int32.zero_add]
set_option maxHeartbeats 4000000 in
set_option maxRecDepth 100000 in
theorem ce_L (v : Vw) : ∀ k i ce, i + k ≤ 16 → g_GR_countEnded_L4 (XX v) k i ce = ce + sI (fun t => en (v.tv t)) i k := by
  intro k
  induction k with
  | zero => intro i ce _; exact (Int32.add_zero ce).symm
  | succ k ih =>
    intro i ce hi
    unfold g_GR_countEnded_L4
    rw [ih _ _ (by omega), ih _ _ (by omega), clN (show i < 16 by omega), X_tv _ (show i < 16 by omega)]
    show (if v.tv i 14 = 0 then _ else _) = ce + ((if v.tv i 14 = 0 then 0 else 1) + _)
    split
    · rw [Int32.zero_add]
    · rw [Int32.add_assoc]; rfl
set_option maxHeartbeats 4000000 in
set_option maxRecDepth 100000 in
theorem n_cl (v : Vw) : g_CT_countClosed (XX v) = sC v := by
  unfold g_CT_countClosed
  rw [cc_L v 16 0 0 (by omega), Int32.zero_add]; rfl
set_option maxHeartbeats 4000000 in
set_option maxRecDepth 100000 in
theorem n_en (v : Vw) {c : Nat} (hc : v.cn = nI c) (hc16 : c ≤ 16) : g_GR_countEnded (XX v) = sE v c := by
  unfold g_GR_countEnded
  rw [X_10, hc, nI_clamp (by omega), ce_L v c 0 0 (by omega), Int32.zero_add]; rfl
/-- what a tick leaves -/
def Bal (N : fl_M) (W : Nat → Nat → Int32) (c : Nat) : Int32 := N.1 0 4 - (sE (V N W) c + sC (V N W))
set_option maxHeartbeats 4000000 in
set_option maxRecDepth 100000 in
theorem b_eq {a a' s s' : Int32} (h : a' + s = a + s') : a' - s' = a - s := by
  have h1 : a' = a + s' - s := by rw [← h, Int32.add_sub_cancel]
  rw [h1, Int32.sub_eq_add_neg (a + s') s, Int32.sub_eq_add_neg _ s', Int32.add_assoc, Int32.add_assoc, Int32.add_comm s', Int32.add_assoc, Int32.add_left_neg, Int32.add_zero, Int32.sub_eq_add_neg]
set_option maxHeartbeats 4000000 in
set_option maxRecDepth 100000 in
theorem ac3 (a b c : Int32) : a + b + c = a + (c + b) := by rw [Int32.add_assoc, Int32.add_comm b]
set_option maxHeartbeats 4000000 in
set_option maxRecDepth 100000 in
theorem ac5 (a b d e g : Int32) : a + b + d + (e + g) = a + (e + (g + b + d)) := by ac_rfl
set_option maxHeartbeats 4000000 in
set_option maxRecDepth 100000 in
theorem ac6 (a b d e g : Int32) : a + b + d + (e + g) = a + (e + b + d + g) := by ac_rfl
set_option maxHeartbeats 4000000 in
set_option maxRecDepth 100000 in
theorem bal_same {N N' : fl_M} {W : Nat → Nat → Int32} {c : Nat} (h4 : N'.1 0 4 = N.1 0 4) (et : ∀ s, s < c → (V N' W).tv s = (V N W).tv s) (er : ∀ s, s < 16 → (V N' W).rv s = (V N W).rv s) : Bal N' W c = Bal N W c := by
  unfold Bal sE sC
  rw [h4, sI_c c 0 (fun j _ h => by rw [et j (by omega)]), sI_c 16 0 (fun j _ h => by rw [er j (by omega)])]
set_option maxHeartbeats 4000000 in
set_option maxRecDepth 100000 in
theorem bal_r {N N' : fl_M} {W : Nat → Nat → Int32} {c t : Nat} {f : Nat → Int32} (ht : t < 16) (h4 : N'.1 0 4 + cl ((V N W).rv t) = N.1 0 4 + cl f) (et : ∀ s, s < c → (V N' W).tv s = (V N W).tv s) (er : ∀ s, s < 16 → (V N' W).rv s = va_up (V N W).rv t f s) : Bal N' W c = Bal N W c := by
  unfold Bal
  refine b_eq ?_
  have e1 : sE (V N' W) c = sE (V N W) c := sI_c c 0 (fun j _ h => by rw [et j (by omega)])
  have e2 := sI_up (p := fun s => cl ((V N W).rv s)) (q := fun s => cl ((V N' W).rv s)) (t := t) 16 0 (by omega) (by omega) (fun j hj _ h => by show cl _ = cl _; rw [er j (by omega), va_up_ne _ _ hj])
  have e3 : cl ((V N' W).rv t) = cl f := by rw [er t ht, va_up_self]
  have e2 : sC (V N' W) + cl ((V N W).rv t) = sC (V N W) + cl f := by rw [← e3]; exact e2
  have h5 : N'.1 0 4 = N.1 0 4 + cl f - cl ((V N W).rv t) := by rw [← h4, Int32.add_sub_cancel]
  have h6 : sC (V N' W) = sC (V N W) + cl f - cl ((V N W).rv t) := by rw [← e2, Int32.add_sub_cancel]
  rw [e1, h5, h6, Int32.sub_eq_add_neg, Int32.sub_eq_add_neg]
  exact ac5 _ _ _ _ _
set_option maxHeartbeats 4000000 in
set_option maxRecDepth 100000 in
theorem bal_t {N N' : fl_M} {W : Nat → Nat → Int32} {c t : Nat} {f : Nat → Int32} (ht : t < c) (h4 : N'.1 0 4 + en ((V N W).tv t) = N.1 0 4 + en f) (er : ∀ s, s < 16 → (V N' W).rv s = (V N W).rv s) (et : (V N' W).tv = va_up (V N W).tv t f) : Bal N' W c = Bal N W c := by
  unfold Bal
  refine b_eq ?_
  have e1 : sC (V N' W) = sC (V N W) := sI_c 16 0 (fun j _ h => by rw [er j (by omega)])
  have e2 := sI_up (p := fun s => en ((V N W).tv s)) (q := fun s => en ((V N' W).tv s)) (t := t) c 0 (by omega) (by omega) (fun j hj _ h => by show en _ = en _; rw [et, va_up_ne _ _ hj])
  have e3 : en ((V N' W).tv t) = en f := by rw [et, va_up_self]
  have e2 : sE (V N' W) c + en ((V N W).tv t) = sE (V N W) c + en f := by rw [← e3]; exact e2
  have h5 : N'.1 0 4 = N.1 0 4 + en f - en ((V N W).tv t) := by rw [← h4, Int32.add_sub_cancel]
  have h6 : sE (V N' W) c = sE (V N W) c + en f - en ((V N W).tv t) := by rw [← e2, Int32.add_sub_cancel]
  rw [e1, h5, h6, Int32.sub_eq_add_neg, Int32.sub_eq_add_neg]
  exact ac6 _ _ _ _ _
set_option maxHeartbeats 4000000 in
set_option maxRecDepth 100000 in
theorem aft_at (v : Vw) {t s : Nat} (ht : t < 16) (hs : s < 16) (T : T3) (hr : RI T.2.1) : (aft v t T).1 (56 + 2 * s) = va_up v.rv t T.2.1 s := by
  unfold aft
  split
  · rw [X_rv _ hs]; rfl
  · obtain ⟨m, hm, h6⟩ := vp_in_of hr.1 (by decide)
    have h5 : T.2.1 5 = nI (T.2.1 5).toNatClampNeg := hr.2.1
    have hk := kp_X ((mkV v.tm v.cn v.fs v.wf v.wg v.wb v.gv v.gz v.gi v.cv v.st v.sw v.tv v.tw (va_up v.rv t T.2.1) (va_up v.rw t T.2.2)) : Vw) ht hm hr.2.2 ((congrFun (va_up_self v.rv t T.2.1) 6).trans h6) ((congrFun (va_up_self v.rv t T.2.1) 5).trans h5)
    rw [hk, X_rv _ hs]
    rfl
set_option maxHeartbeats 4000000 in
set_option maxRecDepth 100000 in
theorem b_pdu (N : fl_M) (W : Nat → Nat → Int32) {c : Nat} (hc : c ≤ 16) (x : Int64) (h : RA N W) : Bal (g_MD_craftPdu N x) W c = Bal N W c := by
  obtain ⟨k, hk, eK⟩ := q4_f x 44
  obtain ⟨t, ht, eT⟩ := q4_f x 40
  obtain ⟨p, hp, eP⟩ : ∃ p, p < 256 ∧ ((j_lushr x 32).toInt32) &&& 255 = nI p := pk_andE _ 8 rfl
  have kk : K Sc Zc N (g_MD_craftPdu N x) := k_pdu K.r x
  have et : (V (g_MD_craftPdu N x) W).tv = (V N W).tv := yT_c (kk.2.1 1 (by decide)) (fun c h1 h2 _ => kk.1 c (by unfold Sc; simp only [decide_eq_true_eq]; omega))
  rw [yPdu_eq, ← fb_44, ← fb_40, ← po_eq, eK, eT, eP] at et ⊢
  have e := pdu_v N W (x := x.toInt32) ht hp hk (h t ht).1 (h t ht).2
  refine bal_r (t := t) (f := (g_CR_hear ((V N W).rv t) ((V N W).rw t) (nI k) (nI p) x.toInt32).2.1) ht ?_ (fun s _ => by rw [et]) (fun s hs => ?_)
  · rw [y04 N t ht, h04 hk (h t ht).1]
    show _ = N.1 0 4 + (cl ((V N W).rv t) + (if nI k = 5 ∧ N.1 25 t = 2 then 1 else 0))
    exact ac3 _ _ _
  · rw [← X_rv _ hs, e, aft_at _ ht hs _ (rv_hear hk hp (h t ht).1 (h t ht).2).1.ri]
set_option maxHeartbeats 4000000 in
set_option maxRecDepth 100000 in
theorem b_frame (N : fl_M) (W : Nat → Nat → Int32) {c : Nat} (hc : c ≤ 16) (x : Int64) (h : RA N W) : Bal (g_MD_craftFrame N x) W c = Bal N W c := by
  have z : ∀ (j : Nat) (a : Int32), j ≠ 4 → j ≠ 1 → ∀ M : fl_M, Bal (fl_i M 0 j a) W c = Bal M W c := by
    intro j a h4 h1 M
    refine bal_same (fi_0 (Ne.symm h4)) (fun s _ => ?_) (fun s _ => ?_)
    · exact congrFun (yT_c (fi_0 (Ne.symm h1)) (fun c g1 g2 _ => fi_ne (by omega))) s
    · exact congrFun (yR_c (fi_0 (Ne.symm h1)) (fun c g1 g2 _ => fi_ne (by omega))) s
  rw [yFr_eq]
  unfold yFr
  split
  · split
    · split
      · rw [b_pdu _ W hc x ?_, z 40 _ (by decide) (by decide), z 38 _ (by decide) (by decide)]
        intro s hs
        exact h s hs
      · split
        · split
          · exact z 39 _ (by decide) (by decide) _
          · rfl
        · exact z 40 _ (by decide) (by decide) _
    · rfl
  · split
    · exact b_pdu N W hc x h
    · split
      · rw [z 40 _ (by decide) (by decide), z 39 _ (by decide) (by decide)]
      · split
        · split
          · rw [z 40 _ (by decide) (by decide), z 38 _ (by decide) (by decide)]
          · rfl
        · rfl
set_option maxHeartbeats 4000000 in
set_option maxRecDepth 100000 in
theorem b_c29 (W : Nat → Nat → Int32) {c : Nat} (hc : c ≤ 16) : ∀ k i (N : fl_M), i + k ≤ 16 → RA N W → Bal (g_MD_tick_L29 k i N) W c = Bal N W c := by
  intro k
  induction k with
  | zero => intro i N _ _; rfl
  | succ k ih =>
    intro i N hi h
    have h1 := s_cl1 N W (t := i) (by omega) h
    have e := sc_v N W (show i < 16 by omega) (h i (by omega)).1
    show Bal (g_MD_tick_L29 k (i + 1) (g_MD_craftClocks N (nI i))) W c = _
    rw [ih (i + 1) _ (by omega) h1.2]
    refine bal_r (t := i) (f := (g_CR_stepClocks ((V N W).rv i) ((V N W).rw i)).1) (by omega) (ch_cc N W (by omega)) (fun s _ => by rw [e]; rfl) (fun s _ => by rw [e]; rfl)
