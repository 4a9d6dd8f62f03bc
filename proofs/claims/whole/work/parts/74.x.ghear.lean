/-! the ground hears a block -/
/-- raw cells that stay, cell 19 among them -/
def Fs (N N' : fl_M) : Prop := Fr N N' ∧ N'.1 19 = N.1 19 ∧ N'.1 0 4 = N.1 0 4
set_option maxHeartbeats 4000000 in
set_option maxRecDepth 100000 in
theorem Fs.r (N : fl_M) : Fs N N := ⟨Fr.r N, rfl, rfl⟩
set_option maxHeartbeats 4000000 in
set_option maxRecDepth 100000 in
theorem Fs.z {N N' : fl_M} {j : Nat} {x : Int32} (h4 : 4 ≠ j) (h : Fs N N') : Fs N (fl_i N' 0 j x) := ⟨Fr.i (by decide) (by decide) h.1, (fi_ne (by decide)).trans h.2.1, (fi_0 h4).trans h.2.2⟩
set_option maxHeartbeats 4000000 in
set_option maxRecDepth 100000 in
theorem Fs.m {N N' : fl_M} (h : Fs N N') : Fs N (g_MD_markAll N') := ⟨⟨(mark_c N' (by decide)).trans h.1.1, (mark_c N' (by decide)).trans h.1.2.1, (mark_2 N').trans h.1.2.2⟩, (mark_c N' (by decide)).trans h.2.1, (congrFun (mark_c N' (by decide)) 4).trans h.2.2⟩
set_option maxHeartbeats 4000000 in
set_option maxRecDepth 100000 in
theorem Fs.al {N N' : fl_M} (x : Int32) (h : Fs N N') : Fs N (g_MD_alert N' x) := Fs.z (by decide) (Fs.z (by decide) (Fs.z (by decide) (Fs.z (by decide) (Fs.z (by decide) (Fs.z (by decide) (Fs.z (by decide) h))))))
set_option maxHeartbeats 4000000 in
set_option maxRecDepth 100000 in
theorem Fs.ite {p : Prop} [Decidable p] {N A B : fl_M} (ha : Fs N A) (hb : Fs N B) : Fs N (if p then A else B) := by
  split
  · exact ha
  · exact hb
set_option maxHeartbeats 4000000 in
set_option maxRecDepth 100000 in
theorem fs_arF {N A : fl_M} (x3 X : Int32) (h : Fs N A) : Fs N (arF x3 X A) := by
  have hm : ∀ B : fl_M, Fs N B → ∀ y : Int32, Fs N (fl_i (fl_i (g_MD_markAll B) 0 35 1) 0 36 y) := fun B hB y => Fs.z (by decide) (Fs.z (by decide) (Fs.m hB))
  unfold arF
  exact Fs.ite (Fs.z (by decide) h) (Fs.ite h (Fs.ite (Fs.ite (Fs.ite (Fs.al 2 h) (hm _ (Fs.z (by decide) h) _)) (hm _ (Fs.z (by decide) h) _)) (Fs.ite (Fs.ite (Fs.ite (Fs.al 2 h) (hm _ (Fs.z (by decide) h) _)) (hm _ (Fs.z (by decide) h) _)) h)))
set_option maxHeartbeats 4000000 in
set_option maxRecDepth 100000 in
theorem fs_act (N : fl_M) (x1 x2 x3 : Int32) : Fs N (g_MD_activeReport N x1 x2 x3) := by
  rw [ar_eq]
  have h := Fs.r N
  exact Fs.ite (Fs.ite (Fs.ite (fs_arF _ _ (Fs.z (by decide) h)) (fs_arF _ _ (Fs.z (by decide) (Fs.z (by decide) (Fs.z (by decide) h))))) (Fs.al 2 h)) (Fs.al 1 h)
set_option maxHeartbeats 4000000 in
set_option maxRecDepth 100000 in
theorem fs_rep (N : fl_M) (x : Int64) : Fs N (g_MD_groundReport N x) := by
  have h := Fs.r N
  have z2 : ∀ (i j : Nat) (a b : Int32), 4 ≠ i → 4 ≠ j → Fs N (fl_i (fl_i N 0 i a) 0 j b) := fun i j a b hi hj => Fs.z hj (Fs.z hi h)
  unfold g_MD_groundReport
  exact Fs.ite (Fs.ite (Fs.ite (fs_act ..) (Fs.ite (Fs.ite (z2 _ _ _ _ (by decide) (by decide)) (z2 _ _ _ _ (by decide) (by decide))) (Fs.ite (z2 _ _ _ _ (by decide) (by decide)) h))) (Fs.ite (fs_act ..) (Fs.ite (Fs.ite (z2 _ _ _ _ (by decide) (by decide)) (z2 _ _ _ _ (by decide) (by decide))) (Fs.ite h h)))) (Fs.ite (Fs.ite (fs_act ..) (Fs.ite (Fs.ite (z2 _ _ _ _ (by decide) (by decide)) (z2 _ _ _ _ (by decide) (by decide))) (z2 _ _ _ _ (by decide) (by decide)))) (Fs.ite (fs_act ..) (Fs.ite (Fs.ite (z2 _ _ _ _ (by decide) (by decide)) (z2 _ _ _ _ (by decide) (by decide))) (z2 _ _ _ _ (by decide) (by decide)))))
set_option maxHeartbeats 4000000 in
set_option maxRecDepth 100000 in
theorem fs_fc (N : fl_M) : Fs N (g_MD_frameClocks N) := by
  have h := Fs.r N
  have z2 : ∀ (i j : Nat) (a b : Int32), 4 ≠ i → 4 ≠ j → Fs N (fl_i (fl_i N 0 i a) 0 j b) := fun i j a b hi hj => Fs.z hj (Fs.z hi h)
  have z3 : ∀ (i j k : Nat) (a b c : Int32), 4 ≠ i → 4 ≠ j → 4 ≠ k → Fs N (fl_i (fl_i (fl_i N 0 i a) 0 j b) 0 k c) := fun i j k a b c hi hj hk => Fs.z hk (Fs.z hj (Fs.z hi h))
  have hf : Fs N (fcF N) := by
    unfold fcF
    exact Fs.ite (Fs.ite (Fs.ite (Fs.al 2 (Fs.z (by decide) h)) (Fs.ite (Fs.m (z3 _ _ _ _ _ _ (by decide) (by decide) (by decide))) (z3 _ _ _ _ _ _ (by decide) (by decide) (by decide)))) (Fs.ite (Fs.m (z3 _ _ _ _ _ _ (by decide) (by decide) (by decide))) (z3 _ _ _ _ _ _ (by decide) (by decide) (by decide)))) (Fs.z (by decide) h)
  rw [fc_eq]
  exact Fs.ite (Fs.ite h hf) hf
set_option maxHeartbeats 4000000 in
set_option maxRecDepth 100000 in
/-- nothing of the transactions is changed -/
theorem ti_same {N N1 : fl_M} {W : Nat → Nat → Int32} {c : Nat} (h : TI N W c) (e : (V N1 W).tv = (V N W).tv) (h9 : N1.1 9 = N.1 9) (h19 : N1.1 19 = N.1 19) : TI N1 W c := by
  intro s hs
  have ey : yw N1 s = yw N s := by unfold yw; rw [h9]
  rw [e, ey, h19]
  exact h s hs
def grF (M : fl_M) (x1 : Int64) (a b : Int32) : fl_M := if (g_GR_has (pGF M ((g_GF_hear (M.1 11) (M.1 13) (M.2 12) (g_FL_fourBitsAt x1 0) a b).1) ((g_GF_hear (M.1 11) (M.1 13) (M.2 12) (g_FL_fourBitsAt x1 0) a b).2.1) ((g_GF_hear (M.1 11) (M.1 13) (M.2 12) (g_FL_fourBitsAt x1 0) a b).2.2)) (g_FL_fourBitsAt x1 12)) = 0 then ((pGF M ((g_GF_hear (M.1 11) (M.1 13) (M.2 12) (g_FL_fourBitsAt x1 0) a b).1) ((g_GF_hear (M.1 11) (M.1 13) (M.2 12) (g_FL_fourBitsAt x1 0) a b).2.1) ((g_GF_hear (M.1 11) (M.1 13) (M.2 12) (g_FL_fourBitsAt x1 0) a b).2.2))) else ((pTR (pGF M ((g_GF_hear (M.1 11) (M.1 13) (M.2 12) (g_FL_fourBitsAt x1 0) a b).1) ((g_GF_hear (M.1 11) (M.1 13) (M.2 12) (g_FL_fourBitsAt x1 0) a b).2.1) ((g_GF_hear (M.1 11) (M.1 13) (M.2 12) (g_FL_fourBitsAt x1 0) a b).2.2)) (24 + 2 * (g_FL_fourBitsAt x1 12).toNatClampNeg) ((g_TR_hear ((pGF M ((g_GF_hear (M.1 11) (M.1 13) (M.2 12) (g_FL_fourBitsAt x1 0) a b).1) ((g_GF_hear (M.1 11) (M.1 13) (M.2 12) (g_FL_fourBitsAt x1 0) a b).2.1) ((g_GF_hear (M.1 11) (M.1 13) (M.2 12) (g_FL_fourBitsAt x1 0) a b).2.2)).1 (24 + 2 * (g_FL_fourBitsAt x1 12).toNatClampNeg)) ((pGF M ((g_GF_hear (M.1 11) (M.1 13) (M.2 12) (g_FL_fourBitsAt x1 0) a b).1) ((g_GF_hear (M.1 11) (M.1 13) (M.2 12) (g_FL_fourBitsAt x1 0) a b).2.1) ((g_GF_hear (M.1 11) (M.1 13) (M.2 12) (g_FL_fourBitsAt x1 0) a b).2.2)).1 ((24 + 2 * (g_FL_fourBitsAt x1 12).toNatClampNeg) + 1)) (g_FL_fourBitsAt x1 8) (((j_lushr x1 16).toInt32) &&& 16777215)).1) ((g_TR_hear ((pGF M ((g_GF_hear (M.1 11) (M.1 13) (M.2 12) (g_FL_fourBitsAt x1 0) a b).1) ((g_GF_hear (M.1 11) (M.1 13) (M.2 12) (g_FL_fourBitsAt x1 0) a b).2.1) ((g_GF_hear (M.1 11) (M.1 13) (M.2 12) (g_FL_fourBitsAt x1 0) a b).2.2)).1 (24 + 2 * (g_FL_fourBitsAt x1 12).toNatClampNeg)) ((pGF M ((g_GF_hear (M.1 11) (M.1 13) (M.2 12) (g_FL_fourBitsAt x1 0) a b).1) ((g_GF_hear (M.1 11) (M.1 13) (M.2 12) (g_FL_fourBitsAt x1 0) a b).2.1) ((g_GF_hear (M.1 11) (M.1 13) (M.2 12) (g_FL_fourBitsAt x1 0) a b).2.2)).1 ((24 + 2 * (g_FL_fourBitsAt x1 12).toNatClampNeg) + 1)) (g_FL_fourBitsAt x1 8) (((j_lushr x1 16).toInt32) &&& 16777215)).2)))
set_option maxHeartbeats 4000000 in
set_option maxRecDepth 100000 in
theorem gr_eq (M : fl_M) (x : Int64) : g_GR_hear M x = if lg_cmp x (-1) = 0 then M else (if lg_cmp (x &&& 16) 0 = 0 then (if lg_cmp (x &&& 32) 0 = 0 then grF M x 0 0 else grF M x 0 1) else (if lg_cmp (x &&& 32) 0 = 0 then grF M x 1 0 else grF M x 1 1)) := rfl
set_option maxHeartbeats 4000000 in
set_option maxRecDepth 100000 in
theorem gr_bz (M : fl_M) {x : Int64} (hx : x ≠ -1) : g_GR_hear M x = grF M x (bz (x &&& 16 = 0)) (bz (x &&& 32 = 0)) := by
  rw [gr_eq, if_neg (fun c => hx (cmpE.1 c))]
  unfold bz
  by_cases a : x &&& 16 = 0 <;> by_cases b : x &&& 32 = 0 <;> simp only [cmp0, a, b, if_true, if_false]
set_option maxHeartbeats 4000000 in
set_option maxRecDepth 100000 in
theorem X_pGF' (v : Vw) (G : G3) : pGF (XX v) G.1 G.2.1 G.2.2 = XX (pG v G) := X_pGF v G.1 G.2.1 G.2.2
set_option maxHeartbeats 4000000 in
set_option maxRecDepth 100000 in
theorem s_gh (N : fl_M) (W : Nat → Nat → Int32) {x : Int64} (hx : x ≠ -1) {c : Nat} (hc : N.1 0 13 = nI c) (hc16 : c ≤ 16) (h : TI N W c) (hg : GI (V N W).gv (V N W).gi) :
    g_GR_hear (XX (V N W)) x = XX (V (g_MD_groundPdu (g_MD_groundReport N x) x) W) ∧ TI (g_MD_groundPdu (g_MD_groundReport N x) x) W c ∧ GI (V (g_MD_groundPdu (g_MD_groundReport N x) x) W).gv (V (g_MD_groundPdu (g_MD_groundReport N x) x) W).gi ∧ Fr N (g_MD_groundPdu (g_MD_groundReport N x) x) := by
  obtain ⟨k, hk, eK⟩ := q4_f x 8
  obtain ⟨t, ht, eT⟩ := q4_f x 12
  have er := s_rep N W x hg.2.2.2.1
  have fr := fs_rep N x
  have gi := gi_hear (z := (V N W).gz) (g_FL_fourBitsAt x 0) (bz (x &&& 16 = 0)) (bz (x &&& 32 = 0)) hg
  generalize hN1 : g_MD_groundReport N x = N1 at er fr
  have ecn : N1.1 0 13 = N.1 0 13 := congrArg Vw.cn er
  have etv : (V N1 W).tv = (V N W).tv := by rw [er]; rfl
  have h1 : TI N1 W c := ti_same h etv fr.1.2.1 fr.2.1
  rw [gr_bz _ hx]
  unfold grF
  rw [X_11, X_13, X_g12]
  revert er gi
  generalize g_GF_hear (V N W).gv (V N W).gz (V N W).gi (g_FL_fourBitsAt x 0) (bz (x &&& 16 = 0)) (bz (x &&& 32 = 0)) = G
  intro gi er
  rw [X_pGF', ← er, eT, clN ht, X_tv _ ht, X_tw _ ht, X_pTR _ ht, eK, ma_eq, yGp_eq, ← fb_8, ← fb_12, eK, eT]
  have eh : g_GR_has (XX (V N1 W)) (nI t) = if nI c ≤ nI t then 0 else 1 := by
    unfold g_GR_has g_FL_isBelow
    rw [X_10, if_neg (nI_pos (by omega))]
    have : (V N1 W).cn = nI c := ecn.trans hc
    rw [this]
  rw [eh]
  have g1 : GI (V N1 W).gv (V N1 W).gi := by rw [er]; exact gi
  by_cases hct : c ≤ t
  · have a : nI c ≤ nI t := (nI_leI (by omega) (by omega)).2 hct
    have n : ¬ nI t < N1.1 0 13 := by rw [ecn, hc]; exact nI_nlt hct (by omega)
    have ey : yGp N1 (nI k) (nI t) ((j_lshr x 16) &&& 16777215).toInt32 = N1 := by
      unfold yGp
      rw [if_neg n]
      split
      · rfl
      · split
        · rfl
        · rfl
    rw [if_pos a, if_pos rfl, ey]
    exact ⟨rfl, h1, g1, fr.1⟩
  · have a : ¬ nI c ≤ nI t := nI_ge (by omega) (by omega)
    have n : nI t < N1.1 0 13 := by rw [ecn, hc]; exact nI_lt (by omega) (by omega)
    obtain ⟨v1, v2, v3, v4⟩ := gp_v N1 W ht hk ((j_lshr x 16) &&& 16777215).toInt32 n
    rw [if_neg a, if_neg (show ¬ (1 : Int32) = 0 by decide), trh_w, va_up_id, v1]
    refine ⟨rfl, ?_, g1, fr.1.t v2⟩
    refine ti_up h1 (t := t) (f := (g_TR_hear ((V N1 W).tv t) ((V N1 W).tw t) (nI k) ((j_lshr x 16) &&& 16777215).toInt32).1) (by rw [v1]; rfl) v2.2.1 (fun s _ => by rw [v3]) ?_
    rw [v3]
    exact tp_trh (show t < c by omega) _ _ (h1 t ht)
