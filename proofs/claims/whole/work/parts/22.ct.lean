/-! contracts: 22.ct -/
theorem fl_i_ne {M : fl_M} {c j q : Nat} {v : Int32} (h : q ≠ c) : (fl_i M c j v).1 q = M.1 q := va_up_ne _ _ h
theorem nb_TR {M : fl_M} {q k : Nat} {f w : Nat → Int32} (h1 : k ≠ q) (h2 : k ≠ q + 1) : (pTR M q f w).1 k = M.1 k := by
  unfold pTR; dsimp only; rw [va_up_ne _ _ h2, va_up_ne _ _ h1]
theorem nb_CR {M : fl_M} {q k : Nat} {f w : Nat → Int32} (h1 : k ≠ q) (h2 : k ≠ q + 1) : (pCR M q f w).1 k = M.1 k := by
  unfold pCR; dsimp only; rw [va_up_ne _ _ h2, va_up_ne _ _ h1]
theorem nb_CF {M : fl_M} {k : Nat} {f : Nat → Int32} (h1 : k ≠ 16) : (pCF M f).1 k = M.1 k := va_up_ne _ _ h1
theorem nb_GF {M : fl_M} {k : Nat} {f z : Nat → Int32} {g : Nat → Int64} (h1 : k ≠ 11) (h2 : k ≠ 13) : (pGF M f z g).1 k = M.1 k := by
  unfold pGF; dsimp only; rw [va_up_ne _ _ h2, va_up_ne _ _ h1]
theorem ne_SR {q : Nat} {x : Int32} (h : is_CR q) (hx : vp_in x 4) : q ≠ 20 + x.toNatClampNeg := by
  have := h.1
  have := (is_SROWof hx).2
  omega
theorem p255 (x : Int32) : ¬ (x &&& 255) < 0 := by
  obtain ⟨j, hj, e⟩ := pk_andE x (m := 255) 8 rfl
  rw [e]
  exact nI_pos (by omega)
theorem bg_in {x : Int32} (h : nn x) (h2 : x < 16) : vp_in x 16 := by
  have h3 : nI x.toNatClampNeg < nI 16 := by rw [← show x = nI x.toNatClampNeg from h]; exact h2
  have h4 := (nI_ltI (tn_lt x) (by decide)).mp h3
  rw [show x = nI x.toNatClampNeg from h]
  exact vp_in_nI h4 (by decide)
/-- where a record says that it is to be stored, its name and length are in range -/
def KP (M : fl_M) : Prop := ∀ q, is_CR q → ∀ k p x : Int32, ¬ p < 0 → ¬ (g_CR_hear (M.1 q) (M.1 (q + 1)) k p x).1 = 0 → vp_in ((g_CR_hear (M.1 q) (M.1 (q + 1)) k p x).2.1 6) 4 ∧ nn ((g_CR_hear (M.1 q) (M.1 (q + 1)) k p x).2.1 5) ∧ ((g_CR_hear (M.1 q) (M.1 (q + 1)) k p x).2.1 5).toNatClampNeg ≤ 16
theorem keep_pre {M : fl_M} {F : Nat → Int32} {q : Nat} {k p x : Int32} (hKP : KP M) (hq : is_CR q) (hp : ¬ p < 0) (h : ¬ (g_CR_hear ((pCF M F).1 q) ((pCF M F).1 (q + 1)) k p x).1 = 0) : vp_in ((pCR (pCF M F) q (g_CR_hear ((pCF M F).1 q) ((pCF M F).1 (q + 1)) k p x).2.1 (g_CR_hear ((pCF M F).1 q) ((pCF M F).1 (q + 1)) k p x).2.2).1 q 6) 4 ∧ nn ((pCR (pCF M F) q (g_CR_hear ((pCF M F).1 q) ((pCF M F).1 (q + 1)) k p x).2.1 (g_CR_hear ((pCF M F).1 q) ((pCF M F).1 (q + 1)) k p x).2.2).1 q 5) ∧ ((pCR (pCF M F) q (g_CR_hear ((pCF M F).1 q) ((pCF M F).1 (q + 1)) k p x).2.1 (g_CR_hear ((pCF M F).1 q) ((pCF M F).1 (q + 1)) k p x).2.2).1 q 5).toNatClampNeg ≤ 16 := by
  rw [pq_CR_f]
  have e1 : (pCF M F).1 q = M.1 q := nb_CF (by have := hq.1; omega)
  have e2 : (pCF M F).1 (q + 1) = M.1 (q + 1) := nb_CF (by have := hq.1; omega)
  rw [e1, e2] at h ⊢
  exact hKP q hq k p x hp h
theorem sm_next (f z : Nat → Int32) (g : Nat → Int64) : ∀ k, (g_GF_sendMarked_L5 f z g k).2.1 4 = f 4 := by
  intro k
  induction k with
  | zero => rfl
  | succ k ih =>
    rw [g_GF_sendMarked_L5]
    split
    · exact ih
    · rfl
theorem sm_in {M : fl_M} (h : vp_in (M.1 11 4) 16) : vp_in ((pGF M (g_GF_sendMarked (M.1 11) (M.1 13) (M.2 12)).2.1 (g_GF_sendMarked (M.1 11) (M.1 13) (M.2 12)).2.2.1 (g_GF_sendMarked (M.1 11) (M.1 13) (M.2 12)).2.2.2).1 11 4) 16 := by
  rw [pq_GF_f]
  have e : (g_GF_sendMarked (M.1 11) (M.1 13) (M.2 12)).2.1 4 = M.1 11 4 := sm_next _ _ _ _
  rw [e]
  exact h
theorem vp_lt {x : Int32} {n : Nat} (h : vp_in x n) : x.toNatClampNeg < n := Nat.not_le.mp fun q => h (Or.inr q)
theorem sl_in {n y : Int32} (hn : n ≤ 16) (h : ¬ g_FL_isBelow y n = 0) : vp_in y 16 := by
  obtain ⟨h1, h2⟩ := below_iff h
  obtain ⟨j, hj, rfl⟩ := nI_of h1
  exact vp_in_nI ((nI_ltI hj (b := 16) (by decide)).mp (Int32.lt_of_lt_of_le h2 hn)) (by decide)
def g_CT_keep_L15 (qa : Nat) : Nat → Nat → fl_M → fl_M
  | 0, i_15, M1 => (M1)
  | k_15 + 1, i_15, M1 => g_CT_keep_L15 qa k_15 (i_15 + 1) (fl_i M1 (20 + (M1.1 qa 6).toNatClampNeg) ((nI i_15).toNatClampNeg) (M1.1 (qa + 1) ((nI i_15).toNatClampNeg)))
def g_CT_keep (qa : Nat) (M : fl_M) : fl_M :=
  (g_CT_keep_L15 qa ((M.1 qa 5).toNatClampNeg) 0 (fl_i M 18 ((M.1 qa 6).toNatClampNeg) (M.1 qa 5)))
set_option maxHeartbeats 4000000 in
set_option maxRecDepth 100000 in
theorem c_CT_keep (l : Launch) {D : va_G} {ad : Nat → Nat} {cA : Nat → ClassId} {st : Nat → Nat} (hi : fl_inj ad 88) (qa : Nat) (M : fl_M) (ha : is_CR qa) (hnm : vp_in (M.1 qa 6) 4) (hln : nn (M.1 qa 5)) (hl16 : (M.1 qa 5).toNatClampNeg ≤ 16) : Met l y_CT_keep w_CT_keep ({ frames := 0, cells := 0, slots := 0, locals := 0 } : Room) (va_Pc [.ref (ad 15), .ref (ad qa)] (fl_B D cls (xt cA) (xSL st) xFN xMN ad (xc ad cA) 88 M)) (va_Qv (fun M' => M' = (g_CT_keep qa M)) (fl_E D cls ad (xc ad cA) 88) (fl_A ad 88)) 0 0 (fl_A ad 88) := by
  refine Met.ofW (cc := b_CT_keep) (maxL := 3) (ret := none) (by decide) rfl ?_
  intro p e s m args below meth c s₁ B hml hv
  obtain ⟨rfl, hP, hK, hSt, hN⟩ := hv
  have hx := B.exec
  have hb := B.bytes
  have hr := B.returns
  have hts := atoms_spec (ws := w_CT_keep) B.pre
  have hown : s.vm.findClass "FarLink$Craft" = some m.cls := findClass_of_methodNamed B.named
  have hlocks := B.notSynchronized
  have hS : va_S (fl_A ad 88) s.heap s.heap [] := va_S.rf
  have hl := lv_entry ([.ref (ad 15), .ref (ad qa)]) (n := 3) (Nat.le_of_ble_eq_true rfl)
  rw [lg_entry_eq]
  generalize (lg_sl ([.ref (ad 15), .ref (ad qa)]) ++ List.replicate (3 - (lg_sl ([.ref (ad 15), .ref (ad qa)])).length) Slot.unset).toArray = ls at hl ⊢
  have hl : lv_has ls 3 [(0, .ref (ad 15)), (1, .ref (ad qa))] := hl
  have hG := g_CT_keep.eq_1 qa M
  refine lv_aload_n hx hb d_CT_keep_0 rfl (lv_at hl 0 rfl) ?_
  refine gg_CT (k := 2) (v := .ref (ad 18)) hx hb hts hown hK hP  (hts _ (List.mem_cons_of_mem _ tw_271)) (by decide) rfl rfl d_CT_keep_1 ?_
  refine lv_aload_n hx hb d_CT_keep_4 rfl (lv_at hl 1 rfl) ?_
  refine gg_CRN (k := 6) (v := .int (M.1 qa 6)) hx hb hts hown hK hP ha (hN.f 15 rfl) (by decide) rfl rfl d_CT_keep_5 ?_
  refine lv_aload_n hx hb d_CT_keep_8 rfl (lv_at hl 1 rfl) ?_
  refine gg_CRN (k := 5) (v := .int (M.1 qa 5)) hx hb hts hown hK hP ha (hN.f 14 rfl) (by decide) rfl rfl d_CT_keep_9 ?_
  refine sg_SLEN hx hb hK hi hP hS  (hnm) d_CT_keep_12 (fun H locs hP hS => ?_)
  refine lv_iconst (v := 0) hx hb d_CT_keep_13 (by decide) ?_
  refine lv_istore_n (lv' := [(2, .int 0), (0, .ref (ad 15)), (1, .ref (ad qa))]) hx hb d_CT_keep_14 rfl hl (by decide) rfl (fun ls hl => ?_)
  have lp_15 : ∀ (k_15 : Nat) (i_15 : Nat) (M1 : fl_M) (ls : Array Slot) (H : Heap) (locs : List Loc), i_15 + k_15 = (M.1 qa 5).toNatClampNeg → M1.1 qa = M.1 qa → lv_has ls 3 [(0, .ref (ad 15)), (1, .ref (ad qa)), (2, .int (nI i_15))] → va_P D cls (fl_w ad (xc ad cA) 88 M1) H → va_S (fl_A ad 88) s.heap H locs → (∀ (v : fl_M) (ls : Array Slot) (H : Heap) (locs : List Loc), v = g_CT_keep_L15 qa k_15 i_15 M1 → lv_has ls 3 [(0, .ref (ad 15)), (1, .ref (ad qa))] → va_P D cls (fl_w ad (xc ad cA) 88 v) H → va_S (fl_A ad 88) s.heap H locs → W p l e (headSpec w_CT_keep ({ frames := 0, cells := 0, slots := 0, locals := 0 } : Room)).room s m ([.ref (ad 15), .ref (ad qa)] : List Value).toArray below meth c H locs 0 0 (MQ below (va_Qv (fun M' => M' = (g_CT_keep qa M)) (fl_E D cls ad (xc ad cA) 88) (fl_A ad 88)) ([.ref (ad 15), .ref (ad qa)] : List Value).toArray s 0 0 (fl_A ad 88)) (F0 m 46 ls [])) → W p l e (headSpec w_CT_keep ({ frames := 0, cells := 0, slots := 0, locals := 0 } : Room)).room s m ([.ref (ad 15), .ref (ad qa)] : List Value).toArray below meth c H locs 0 0 (MQ below (va_Qv (fun M' => M' = (g_CT_keep qa M)) (fl_E D cls ad (xc ad cA) 88) (fl_A ad 88)) ([.ref (ad 15), .ref (ad qa)] : List Value).toArray s 0 0 (fl_A ad 88)) (F0 m 15 ls []) := by
    intro k_15
    induction k_15 with
    | zero =>
      intro i_15 M1 ls H locs hbd hI hl hP hS kk
      have hG : g_CT_keep_L15 qa 0 i_15 M1 = _ := g_CT_keep_L15.eq_1 ..
      refine lv_iload_n hx hb d_CT_keep_15 rfl (lv_at hl 2 rfl) ?_
      refine lv_aload_n hx hb d_CT_keep_16 rfl (lv_at hl 1 rfl) ?_
      refine gg_CRN (k := 5) (v := .int (M1.1 qa 5)) hx hb hts hown hK hP ha (hN.f 14 rfl) (by decide) rfl rfl d_CT_keep_17 ?_
      refine lv_icmp_ge (tgt := 46) hx hb d_CT_keep_20 (by decide) (fun _ => ?_) (fun h_1 => absurd (fl_le (b := (M.1 qa 5).toNatClampNeg) (by rw [hI]; exact hln) (by omega) (by omega)) h_1)
      have hl := lv_sub (l' := [(0, .ref (ad 15)), (1, .ref (ad qa))]) hl [0, 1] rfl
      exact kk (M1) ls _ _ hG.symm hl hP hS
    | succ k_15 ih_15 =>
      intro i_15 M1 ls H locs hbd hI hl hP hS kk
      have hG : g_CT_keep_L15 qa (k_15 + 1) i_15 M1 = _ := g_CT_keep_L15.eq_2 ..
      refine lv_iload_n hx hb d_CT_keep_15 rfl (lv_at hl 2 rfl) ?_
      refine lv_aload_n hx hb d_CT_keep_16 rfl (lv_at hl 1 rfl) ?_
      refine gg_CRN (k := 5) (v := .int (M1.1 qa 5)) hx hb hts hown hK hP ha (hN.f 14 rfl) (by decide) rfl rfl d_CT_keep_17 ?_
      refine lv_icmp_ge (tgt := 46) hx hb d_CT_keep_20 (by decide) (fun h_2 => absurd h_2 (fl_nle (b := (M.1 qa 5).toNatClampNeg) (by rw [hI]; exact hln) (by omega) (by omega))) (fun _ => ?_)
      refine lv_aload_n hx hb d_CT_keep_23 rfl (lv_at hl 0 rfl) ?_
      refine gg_CT (k := 3) (v := .ref (ad 19)) hx hb hts hown hK hP  (hts _ (List.mem_cons_of_mem _ tw_272)) (by decide) rfl rfl d_CT_keep_24 ?_
      refine lv_aload_n hx hb d_CT_keep_27 rfl (lv_at hl 1 rfl) ?_
      refine gg_CRN (k := 6) (v := .int (M1.1 qa 6)) hx hb hts hown hK hP ha (hN.f 15 rfl) (by decide) rfl rfl d_CT_keep_28 ?_
      have hs_3 : vp_in (M1.1 qa 6) 4 := by rw [hI]; exact hnm
      refine ar_SWORDS hx hb hK hP hs_3 d_CT_keep_31 ?_
      refine lv_iload_n hx hb d_CT_keep_32 rfl (lv_at hl 2 rfl) ?_
      refine lv_aload_n hx hb d_CT_keep_33 rfl (lv_at hl 1 rfl) ?_
      refine gg_CRN (k := 1) (v := .ref (ad (qa + 1))) hx hb hts hown hK hP ha (hN.f 10 rfl) (by decide) rfl rfl d_CT_keep_34 ?_
      refine lv_iload_n hx hb d_CT_keep_37 rfl (lv_at hl 2 rfl) ?_
      refine ag_CRw (v := .int (M1.1 (qa + 1) ((nI i_15).toNatClampNeg))) hx hb hK hP ha (vp_in_nI (by omega) (by decide)) rfl d_CT_keep_38 ?_
      refine sg_SROW hx hb hK hi hP hS (is_SROWof hs_3) (vp_in_nI (by omega) (by decide)) d_CT_keep_39 (fun H locs hP hS => ?_)
      refine lv_iinc (k := 2) (v := nI (i_15 + 1)) (lv' := [(2, .int (nI (i_15 + 1))), (0, .ref (ad 15)), (1, .ref (ad qa))]) hx hb d_CT_keep_40 hl rfl (fl_inc _) (by decide) rfl (fun ls hl => ?_)
      refine lv_goto (tgt := 15) hx hb d_CT_keep_43 (by decide) ?_
      have hl := lv_sub (l' := [(0, .ref (ad 15)), (1, .ref (ad qa)), (2, .int (nI (i_15 + 1)))]) hl [1, 2, 0] rfl
      exact ih_15 (i_15 + 1) (fl_i M1 (20 + (M1.1 qa 6).toNatClampNeg) ((nI i_15).toNatClampNeg) (M1.1 (qa + 1) ((nI i_15).toNatClampNeg))) ls _ _ (by omega) ((fl_i_ne (ne_SR ha (by rw [hI]; exact hnm))).trans hI) hl hP hS (fun v ls H locs hv => kk v ls H locs (hv.trans hG.symm))
  have hl := lv_sub (l' := [(0, .ref (ad 15)), (1, .ref (ad qa)), (2, .int (nI 0))]) hl [1, 2, 0] rfl
  refine lp_15 ((M.1 qa 5).toNatClampNeg) 0 (fl_i M 18 ((M.1 qa 6).toNatClampNeg) (M.1 qa 5)) ls _ _ (by omega) (fl_i_ne (by have := ha.1; omega)) hl hP hS (fun v ls H locs hv hl hP hS => ?_)
  subst hv
  exact fl_vret hx hb hr hlocks hP hS (by rw [hG]) d_CT_keep_46
theorem hd_CT_keep : y_CT_keep.cls ≠ "java/lang/invoke/MethodHandle" ∧ y_CT_keep.cls ≠ "java/lang/invoke/VarHandle" ∧ (parseMethodDescriptor y_CT_keep.desc).map (fun d => d.parameters.length) = some 1 := by decide +kernel
theorem kv_CT_keep {R : Room} {s : State} {args : Array Value} {c0 : Cond} {own : String} {index : Nat} (hts : ∀ w ∈ c0 :: gw, w.before args s = true) (hl : (Cond.methodLink own index y_CT_keep).before args s = true) (hR : 0 + 1 ≤ R.frames ∧ 8 + (3 + 11) + 0 ≤ R.locals) : CallW R s args own "FarLink$Craft" index y_CT_keep b_CT_keep 3 none w_CT_keep ({ frames := 0, cells := 0, slots := 0, locals := 0 } : Room) 0 0 1 := ⟨callB_of 1 hts (gw_in tw_522) rfl rfl rfl (hts _ (List.mem_cons_of_mem _ tw_7)) hl hd_CT_keep hR, hts _ (List.mem_cons_of_mem _ tw_521), hts _ (List.mem_cons_of_mem _ ps_CT_keep)⟩
def g_CT_hear (M : fl_M) (x1 : Int64) : fl_M :=
  if (lg_cmp x1 (-1)) = 0 then (M) else (if ((g_CF_giveOn (M.1 16) (g_FL_fourBitsAt x1 52) (g_FL_fourBitsAt x1 48)).1) = 0 then ((pCF M ((g_CF_giveOn (M.1 16) (g_FL_fourBitsAt x1 52) (g_FL_fourBitsAt x1 48)).2))) else (if ((g_CR_hear ((pCF M ((g_CF_giveOn (M.1 16) (g_FL_fourBitsAt x1 52) (g_FL_fourBitsAt x1 48)).2)).1 (56 + 2 * (g_FL_fourBitsAt x1 40).toNatClampNeg)) ((pCF M ((g_CF_giveOn (M.1 16) (g_FL_fourBitsAt x1 52) (g_FL_fourBitsAt x1 48)).2)).1 ((56 + 2 * (g_FL_fourBitsAt x1 40).toNatClampNeg) + 1)) (g_FL_fourBitsAt x1 44) (((j_lushr x1 32).toInt32) &&& 255) x1.toInt32).1) = 0 then ((pCR (pCF M ((g_CF_giveOn (M.1 16) (g_FL_fourBitsAt x1 52) (g_FL_fourBitsAt x1 48)).2)) (56 + 2 * (g_FL_fourBitsAt x1 40).toNatClampNeg) ((g_CR_hear ((pCF M ((g_CF_giveOn (M.1 16) (g_FL_fourBitsAt x1 52) (g_FL_fourBitsAt x1 48)).2)).1 (56 + 2 * (g_FL_fourBitsAt x1 40).toNatClampNeg)) ((pCF M ((g_CF_giveOn (M.1 16) (g_FL_fourBitsAt x1 52) (g_FL_fourBitsAt x1 48)).2)).1 ((56 + 2 * (g_FL_fourBitsAt x1 40).toNatClampNeg) + 1)) (g_FL_fourBitsAt x1 44) (((j_lushr x1 32).toInt32) &&& 255) x1.toInt32).2.1) ((g_CR_hear ((pCF M ((g_CF_giveOn (M.1 16) (g_FL_fourBitsAt x1 52) (g_FL_fourBitsAt x1 48)).2)).1 (56 + 2 * (g_FL_fourBitsAt x1 40).toNatClampNeg)) ((pCF M ((g_CF_giveOn (M.1 16) (g_FL_fourBitsAt x1 52) (g_FL_fourBitsAt x1 48)).2)).1 ((56 + 2 * (g_FL_fourBitsAt x1 40).toNatClampNeg) + 1)) (g_FL_fourBitsAt x1 44) (((j_lushr x1 32).toInt32) &&& 255) x1.toInt32).2.2))) else ((g_CT_keep (56 + 2 * (g_FL_fourBitsAt x1 40).toNatClampNeg) (pCR (pCF M ((g_CF_giveOn (M.1 16) (g_FL_fourBitsAt x1 52) (g_FL_fourBitsAt x1 48)).2)) (56 + 2 * (g_FL_fourBitsAt x1 40).toNatClampNeg) ((g_CR_hear ((pCF M ((g_CF_giveOn (M.1 16) (g_FL_fourBitsAt x1 52) (g_FL_fourBitsAt x1 48)).2)).1 (56 + 2 * (g_FL_fourBitsAt x1 40).toNatClampNeg)) ((pCF M ((g_CF_giveOn (M.1 16) (g_FL_fourBitsAt x1 52) (g_FL_fourBitsAt x1 48)).2)).1 ((56 + 2 * (g_FL_fourBitsAt x1 40).toNatClampNeg) + 1)) (g_FL_fourBitsAt x1 44) (((j_lushr x1 32).toInt32) &&& 255) x1.toInt32).2.1) ((g_CR_hear ((pCF M ((g_CF_giveOn (M.1 16) (g_FL_fourBitsAt x1 52) (g_FL_fourBitsAt x1 48)).2)).1 (56 + 2 * (g_FL_fourBitsAt x1 40).toNatClampNeg)) ((pCF M ((g_CF_giveOn (M.1 16) (g_FL_fourBitsAt x1 52) (g_FL_fourBitsAt x1 48)).2)).1 ((56 + 2 * (g_FL_fourBitsAt x1 40).toNatClampNeg) + 1)) (g_FL_fourBitsAt x1 44) (((j_lushr x1 32).toInt32) &&& 255) x1.toInt32).2.2))))))
set_option maxHeartbeats 4000000 in
set_option maxRecDepth 100000 in
theorem c_CT_hear (l : Launch) {D : va_G} {ad : Nat → Nat} {cA : Nat → ClassId} {st : Nat → Nat} (hi : fl_inj ad 88) (M : fl_M) (x1 : Int64) (hKP : KP M) : Met l y_CT_hear w_CT_hear ({ frames := 4, cells := 0, slots := 0, locals := 91 } : Room) (va_Pc [.ref (ad 15), .long x1] (fl_B D cls (xt cA) (xSL st) xFN xMN ad (xc ad cA) 88 M)) (va_Qv (fun M' => M' = (g_CT_hear M x1)) (fl_E D cls ad (xc ad cA) 88) (fl_A ad 88)) 0 0 (fl_A ad 88) := by
  refine Met.ofW (cc := b_CT_hear) (maxL := 5) (ret := none) (by decide) rfl ?_
  intro p e s m args below meth c s₁ B hml hv
  obtain ⟨rfl, hP, hK, hSt, hN⟩ := hv
  have hx := B.exec
  have hb := B.bytes
  have hr := B.returns
  have hts := atoms_spec (ws := w_CT_hear) B.pre
  have hown : s.vm.findClass "FarLink$Craft" = some m.cls := findClass_of_methodNamed B.named
  have hlocks := B.notSynchronized
  have hS : va_S (fl_A ad 88) s.heap s.heap [] := va_S.rf
  have hl := lv_entry ([.ref (ad 15), .long x1]) (n := 5) (Nat.le_of_ble_eq_true rfl)
  rw [lg_entry_eq]
  generalize (lg_sl ([.ref (ad 15), .long x1]) ++ List.replicate (5 - (lg_sl ([.ref (ad 15), .long x1])).length) Slot.unset).toArray = ls at hl ⊢
  have hl : lv_has ls 5 [(0, .ref (ad 15)), (1, .long x1)] := hl
  have hG := g_CT_hear.eq_1 M x1
  refine lv_lload_n hx hb d_CT_hear_0 rfl (lv_at hl 1 rfl) ?_
  refine lv_ldc2 (v := -1) hx hb hown (hts _ (List.mem_cons_of_mem _ tw_448)) d_CT_hear_1 ?_
  refine W.lcmp hx hb d_CT_hear_4 ?_
  refine lv_if_eq (tgt := 30) hx hb d_CT_hear_5 (by decide) (fun h_1 => ?_) (fun h_1 => ?_)
  ·
    have hG := hG.trans (if_pos h_1)
    exact fl_vret hx hb hr hlocks hP hS (by rw [hG]) d_CT_hear_30
  ·
    have hG := hG.trans (if_neg h_1)
    refine lv_aload_n hx hb d_CT_hear_8 rfl (lv_at hl 0 rfl) ?_
    refine gg_CT (k := 0) (v := .ref (ad 16)) hx hb hts hown hK hP  (hts _ (List.mem_cons_of_mem _ tw_267)) (by decide) rfl rfl d_CT_hear_9 ?_
    refine lv_lload_n hx hb d_CT_hear_12 rfl (lv_at hl 1 rfl) ?_
    refine lv_bipush (v := 52) hx hb d_CT_hear_13 (by decide) ?_
    refine fl_calli (va_runSN (As := [.long x1, .int 52]) (rest := [.ref (ad 16)]) ⟨hx, hb, hml, hown, hts⟩ (c_FL_fourBitsAt l hi M x1 52) (kn_FL_fourBitsAt hts (hN.m 5 rfl) ⟨Nat.le_of_ble_eq_true rfl, Nat.le_of_ble_eq_true rfl⟩) (fl_preS hK hSt hN hS hP) rfl rfl hl.1 rfl (lv_room (Nat.le_of_ble_eq_true rfl)) d_CT_hear_15 ⟨Nat.zero_le _, Nat.zero_le _⟩) hS (fun H locs hP hS => ?_)
    refine lv_lload_n hx hb d_CT_hear_18 rfl (lv_at hl 1 rfl) ?_
    refine lv_bipush (v := 48) hx hb d_CT_hear_19 (by decide) ?_
    refine fl_calli (va_runSN (As := [.long x1, .int 48]) (rest := [.int (g_FL_fourBitsAt x1 52), .ref (ad 16)]) ⟨hx, hb, hml, hown, hts⟩ (c_FL_fourBitsAt l hi M x1 48) (kn_FL_fourBitsAt hts (hN.m 5 rfl) ⟨Nat.le_of_ble_eq_true rfl, Nat.le_of_ble_eq_true rfl⟩) (fl_preS hK hSt hN hS hP) rfl rfl hl.1 rfl (lv_room (Nat.le_of_ble_eq_true rfl)) d_CT_hear_21 ⟨Nat.zero_le _, Nat.zero_le _⟩) hS (fun H locs hP hS => ?_)
    have hP : va_P D cls (fl_w ad (xc ad cA) 88 (pCF M (M.1 16))) H := by rw [id_CF]; exact hP
    refine fl_calli (va_runV (As := [.int (g_FL_fourBitsAt x1 52), .int (g_FL_fourBitsAt x1 48)]) (rest := []) ⟨hx, hb, hml, hown, hts⟩ (c_CF_giveOn l hi M (M.1 16) (g_FL_fourBitsAt x1 52) (g_FL_fourBitsAt x1 48)) (kv_CF_giveOn hts (hts _ (List.mem_cons_of_mem _ tw_450)) ⟨Nat.le_of_ble_eq_true rfl, Nat.le_of_ble_eq_true rfl⟩) (fl_preV hK hSt hN hS hP (by decide) (kc_CF) rfl) rfl rfl hl.1 rfl (lv_room (Nat.le_of_ble_eq_true rfl)) d_CT_hear_24 ⟨Nat.zero_le _, Nat.zero_le _⟩) hS (fun H locs hP hS => ?_)
    refine lv_if_ne (tgt := 31) hx hb d_CT_hear_27 (by decide) (fun h_2 => ?_) (fun h_2 => ?_)
    ·
      have hG := hG.trans (if_neg h_2)
      refine lv_aload_n hx hb d_CT_hear_31 rfl (lv_at hl 0 rfl) ?_
      refine gg_CT (k := 1) (v := .ref (ad 17)) hx hb hts hown hK hP  (hts _ (List.mem_cons_of_mem _ tw_269)) (by decide) rfl rfl d_CT_hear_32 ?_
      refine lv_lload_n hx hb d_CT_hear_35 rfl (lv_at hl 1 rfl) ?_
      refine lv_bipush (v := 40) hx hb d_CT_hear_36 (by decide) ?_
      refine fl_calli (va_runSN (As := [.long x1, .int 40]) (rest := [.ref (ad 17)]) ⟨hx, hb, hml, hown, hts⟩ (c_FL_fourBitsAt l hi (pCF M ((g_CF_giveOn (M.1 16) (g_FL_fourBitsAt x1 52) (g_FL_fourBitsAt x1 48)).2)) x1 40) (kn_FL_fourBitsAt hts (hN.m 5 rfl) ⟨Nat.le_of_ble_eq_true rfl, Nat.le_of_ble_eq_true rfl⟩) (fl_preS hK hSt hN hS hP) rfl rfl hl.1 rfl (lv_room (Nat.le_of_ble_eq_true rfl)) d_CT_hear_38 ⟨Nat.zero_le _, Nat.zero_le _⟩) hS (fun H locs hP hS => ?_)
      have hs_3 : vp_in (g_FL_fourBitsAt x1 40) 16 := fb_in _ _
      refine ar_CRS hx hb hK hP hs_3 d_CT_hear_41 ?_
      refine lv_astore_n (lv' := [(3, .ref (ad (56 + 2 * (g_FL_fourBitsAt x1 40).toNatClampNeg))), (0, .ref (ad 15)), (1, .long x1)]) hx hb d_CT_hear_42 rfl hl (by decide) rfl (fun ls hl => ?_)
      refine lv_lload_n hx hb d_CT_hear_43 rfl (lv_at hl 2 rfl) ?_
      refine lv_bipush (v := 32) hx hb d_CT_hear_44 (by decide) ?_
      refine lv_lushr (v := j_lushr x1 32) hx hb d_CT_hear_46 rfl ?_
      refine lv_l2i (v := (j_lushr x1 32).toInt32) hx hb d_CT_hear_47 rfl ?_
      refine lv_sipush (v := 255) hx hb d_CT_hear_48 (by decide) ?_
      refine lv_iand hx hb d_CT_hear_51 ?_
      refine lv_istore (lv' := [(4, .int (((j_lushr x1 32).toInt32) &&& 255)), (3, .ref (ad (56 + 2 * (g_FL_fourBitsAt x1 40).toNatClampNeg))), (0, .ref (ad 15)), (1, .long x1)]) hx hb d_CT_hear_52 hl (by decide) rfl (fun ls hl => ?_)
      refine lv_aload_n hx hb d_CT_hear_54 rfl (lv_at hl 1 rfl) ?_
      refine lv_lload_n hx hb d_CT_hear_55 rfl (lv_at hl 3 rfl) ?_
      refine lv_bipush (v := 44) hx hb d_CT_hear_56 (by decide) ?_
      refine fl_calli (va_runSN (As := [.long x1, .int 44]) (rest := [.ref (ad (56 + 2 * (g_FL_fourBitsAt x1 40).toNatClampNeg))]) ⟨hx, hb, hml, hown, hts⟩ (c_FL_fourBitsAt l hi (pCF M ((g_CF_giveOn (M.1 16) (g_FL_fourBitsAt x1 52) (g_FL_fourBitsAt x1 48)).2)) x1 44) (kn_FL_fourBitsAt hts (hN.m 5 rfl) ⟨Nat.le_of_ble_eq_true rfl, Nat.le_of_ble_eq_true rfl⟩) (fl_preS hK hSt hN hS hP) rfl rfl hl.1 rfl (lv_room (Nat.le_of_ble_eq_true rfl)) d_CT_hear_58 ⟨Nat.zero_le _, Nat.zero_le _⟩) hS (fun H locs hP hS => ?_)
      refine lv_iload hx hb d_CT_hear_61 (lv_at hl 0 rfl) ?_
      refine lv_lload_n hx hb d_CT_hear_63 rfl (lv_at hl 3 rfl) ?_
      refine lv_l2i (v := x1.toInt32) hx hb d_CT_hear_64 rfl ?_
      have hP : va_P D cls (fl_w ad (xc ad cA) 88 (pCR (pCF M ((g_CF_giveOn (M.1 16) (g_FL_fourBitsAt x1 52) (g_FL_fourBitsAt x1 48)).2)) (56 + 2 * (g_FL_fourBitsAt x1 40).toNatClampNeg) ((pCF M ((g_CF_giveOn (M.1 16) (g_FL_fourBitsAt x1 52) (g_FL_fourBitsAt x1 48)).2)).1 (56 + 2 * (g_FL_fourBitsAt x1 40).toNatClampNeg)) ((pCF M ((g_CF_giveOn (M.1 16) (g_FL_fourBitsAt x1 52) (g_FL_fourBitsAt x1 48)).2)).1 ((56 + 2 * (g_FL_fourBitsAt x1 40).toNatClampNeg) + 1)))) H := by rw [id_CR]; exact hP
      refine fl_calli (va_runV (As := [.int (g_FL_fourBitsAt x1 44), .int (((j_lushr x1 32).toInt32) &&& 255), .int x1.toInt32]) (rest := []) ⟨hx, hb, hml, hown, hts⟩ (c_CR_hear l hi (is_CRof hs_3) (pCF M ((g_CF_giveOn (M.1 16) (g_FL_fourBitsAt x1 52) (g_FL_fourBitsAt x1 48)).2)) ((pCF M ((g_CF_giveOn (M.1 16) (g_FL_fourBitsAt x1 52) (g_FL_fourBitsAt x1 48)).2)).1 (56 + 2 * (g_FL_fourBitsAt x1 40).toNatClampNeg)) ((pCF M ((g_CF_giveOn (M.1 16) (g_FL_fourBitsAt x1 52) (g_FL_fourBitsAt x1 48)).2)).1 ((56 + 2 * (g_FL_fourBitsAt x1 40).toNatClampNeg) + 1)) (g_FL_fourBitsAt x1 44) (((j_lushr x1 32).toInt32) &&& 255) x1.toInt32) (kv_CR_hear hts (hts _ (List.mem_cons_of_mem _ tw_458)) ⟨Nat.le_of_ble_eq_true rfl, Nat.le_of_ble_eq_true rfl⟩) (fl_preV hK hSt hN hS hP (lt_CR (is_CRof hs_3)) (kc_CR (is_CRof hs_3)) rfl) rfl rfl hl.1 rfl (lv_room (Nat.le_of_ble_eq_true rfl)) d_CT_hear_65 ⟨Nat.zero_le _, Nat.zero_le _⟩) hS (fun H locs hP hS => ?_)
      refine lv_if_eq (tgt := 76) hx hb d_CT_hear_68 (by decide) (fun h_4 => ?_) (fun h_4 => ?_)
      ·
        have hG := hG.trans (if_pos h_4)
        exact fl_vret hx hb hr hlocks hP hS (by rw [hG]) d_CT_hear_76
      ·
        have hG := hG.trans (if_neg h_4)
        refine lv_aload_n hx hb d_CT_hear_71 rfl (lv_at hl 2 rfl) ?_
        refine lv_aload_n hx hb d_CT_hear_72 rfl (lv_at hl 1 rfl) ?_
        refine fl_callv (va_runV (As := [.ref (ad (56 + 2 * (g_FL_fourBitsAt x1 40).toNatClampNeg))]) (rest := []) ⟨hx, hb, hml, hown, hts⟩ (c_CT_keep l hi (56 + 2 * (g_FL_fourBitsAt x1 40).toNatClampNeg) (pCR (pCF M ((g_CF_giveOn (M.1 16) (g_FL_fourBitsAt x1 52) (g_FL_fourBitsAt x1 48)).2)) (56 + 2 * (g_FL_fourBitsAt x1 40).toNatClampNeg) ((g_CR_hear ((pCF M ((g_CF_giveOn (M.1 16) (g_FL_fourBitsAt x1 52) (g_FL_fourBitsAt x1 48)).2)).1 (56 + 2 * (g_FL_fourBitsAt x1 40).toNatClampNeg)) ((pCF M ((g_CF_giveOn (M.1 16) (g_FL_fourBitsAt x1 52) (g_FL_fourBitsAt x1 48)).2)).1 ((56 + 2 * (g_FL_fourBitsAt x1 40).toNatClampNeg) + 1)) (g_FL_fourBitsAt x1 44) (((j_lushr x1 32).toInt32) &&& 255) x1.toInt32).2.1) ((g_CR_hear ((pCF M ((g_CF_giveOn (M.1 16) (g_FL_fourBitsAt x1 52) (g_FL_fourBitsAt x1 48)).2)).1 (56 + 2 * (g_FL_fourBitsAt x1 40).toNatClampNeg)) ((pCF M ((g_CF_giveOn (M.1 16) (g_FL_fourBitsAt x1 52) (g_FL_fourBitsAt x1 48)).2)).1 ((56 + 2 * (g_FL_fourBitsAt x1 40).toNatClampNeg) + 1)) (g_FL_fourBitsAt x1 44) (((j_lushr x1 32).toInt32) &&& 255) x1.toInt32).2.2)) (is_CRof hs_3) ((keep_pre hKP (is_CRof (fb_in _ _)) (p255 _) (by assumption)).1) ((keep_pre hKP (is_CRof (fb_in _ _)) (p255 _) (by assumption)).2.1) ((keep_pre hKP (is_CRof (fb_in _ _)) (p255 _) (by assumption)).2.2)) (kv_CT_keep hts (hts _ (List.mem_cons_of_mem _ tw_519)) ⟨Nat.le_of_ble_eq_true rfl, Nat.le_of_ble_eq_true rfl⟩) (fl_preV hK hSt hN hS hP (by decide) (kg_CT) rfl) rfl rfl hl.1 rfl (lv_room (Nat.le_of_ble_eq_true rfl)) d_CT_hear_73 ⟨Nat.zero_le _, Nat.zero_le _⟩) hS (fun H locs hP hS => ?_)
        exact fl_vret hx hb hr hlocks hP hS (by rw [hG]) d_CT_hear_76
    ·
      have hG := hG.trans (if_pos h_2)
      exact fl_vret hx hb hr hlocks hP hS (by rw [hG]) d_CT_hear_30
theorem hd_CT_hear : y_CT_hear.cls ≠ "java/lang/invoke/MethodHandle" ∧ y_CT_hear.cls ≠ "java/lang/invoke/VarHandle" ∧ (parseMethodDescriptor y_CT_hear.desc).map (fun d => d.parameters.length) = some 1 := by decide +kernel
theorem kv_CT_hear {R : Room} {s : State} {args : Array Value} {c0 : Cond} {own : String} {index : Nat} (hts : ∀ w ∈ c0 :: gw, w.before args s = true) (hl : (Cond.methodLink own index y_CT_hear).before args s = true) (hR : 4 + 1 ≤ R.frames ∧ 8 + (5 + 11) + 91 ≤ R.locals) : CallW R s args own "FarLink$Craft" index y_CT_hear b_CT_hear 5 none w_CT_hear ({ frames := 4, cells := 0, slots := 0, locals := 91 } : Room) 0 0 1 := ⟨callB_of 1 hts (gw_in tw_447) rfl rfl rfl (hts _ (List.mem_cons_of_mem _ tw_7)) hl hd_CT_hear hR, hts _ (List.mem_cons_of_mem _ tw_445), hts _ (List.mem_cons_of_mem _ tw_446)⟩
def g_CT_stepClocks_L2  : Nat → Nat → fl_M → fl_M
  | 0, i_2, M1 => (M1)
  | k_2 + 1, i_2, M1 => g_CT_stepClocks_L2  k_2 (i_2 + 1) (pCR M1 (56 + 2 * (nI i_2).toNatClampNeg) ((g_CR_stepClocks (M1.1 (56 + 2 * (nI i_2).toNatClampNeg)) (M1.1 ((56 + 2 * (nI i_2).toNatClampNeg) + 1))).1) ((g_CR_stepClocks (M1.1 (56 + 2 * (nI i_2).toNatClampNeg)) (M1.1 ((56 + 2 * (nI i_2).toNatClampNeg) + 1))).2))
def g_CT_stepClocks (M : fl_M) : fl_M :=
  (g_CT_stepClocks_L2  16 0 M)
set_option maxHeartbeats 4000000 in
set_option maxRecDepth 100000 in
theorem c_CT_stepClocks (l : Launch) {D : va_G} {ad : Nat → Nat} {cA : Nat → ClassId} {st : Nat → Nat} (hi : fl_inj ad 88) (M : fl_M) : Met l y_CT_stepClocks w_CT_stepClocks ({ frames := 4, cells := 0, slots := 0, locals := 81 } : Room) (va_Pc [.ref (ad 15)] (fl_B D cls (xt cA) (xSL st) xFN xMN ad (xc ad cA) 88 M)) (va_Qv (fun M' => M' = (g_CT_stepClocks M)) (fl_E D cls ad (xc ad cA) 88) (fl_A ad 88)) 0 0 (fl_A ad 88) := by
  refine Met.ofW (cc := b_CT_stepClocks) (maxL := 2) (ret := none) (by decide) rfl ?_
  intro p e s m args below meth c s₁ B hml hv
  obtain ⟨rfl, hP, hK, hSt, hN⟩ := hv
  have hx := B.exec
  have hb := B.bytes
  have hr := B.returns
  have hts := atoms_spec (ws := w_CT_stepClocks) B.pre
  have hown : s.vm.findClass "FarLink$Craft" = some m.cls := findClass_of_methodNamed B.named
  have hlocks := B.notSynchronized
  have hS : va_S (fl_A ad 88) s.heap s.heap [] := va_S.rf
  have hl := lv_entry ([.ref (ad 15)]) (n := 2) (Nat.le_of_ble_eq_true rfl)
  rw [lg_entry_eq]
  generalize (lg_sl ([.ref (ad 15)]) ++ List.replicate (2 - (lg_sl ([.ref (ad 15)])).length) Slot.unset).toArray = ls at hl ⊢
  have hl : lv_has ls 2 [(0, .ref (ad 15))] := hl
  have hG := g_CT_stepClocks.eq_1 M
  refine lv_iconst (v := 0) hx hb d_CT_stepClocks_0 (by decide) ?_
  refine lv_istore_n (lv' := [(1, .int 0), (0, .ref (ad 15))]) hx hb d_CT_stepClocks_1 rfl hl (by decide) rfl (fun ls hl => ?_)
  have lp_2 : ∀ (k_2 : Nat) (i_2 : Nat) (M1 : fl_M) (ls : Array Slot) (H : Heap) (locs : List Loc), i_2 + k_2 = 16 → lv_has ls 2 [(0, .ref (ad 15)), (1, .int (nI i_2))] → va_P D cls (fl_w ad (xc ad cA) 88 M1) H → va_S (fl_A ad 88) s.heap H locs → (∀ (v : fl_M) (ls : Array Slot) (H : Heap) (locs : List Loc), v = g_CT_stepClocks_L2  k_2 i_2 M1 → lv_has ls 2 [(0, .ref (ad 15))] → va_P D cls (fl_w ad (xc ad cA) 88 v) H → va_S (fl_A ad 88) s.heap H locs → W p l e (headSpec w_CT_stepClocks ({ frames := 4, cells := 0, slots := 0, locals := 81 } : Room)).room s m ([.ref (ad 15)] : List Value).toArray below meth c H locs 0 0 (MQ below (va_Qv (fun M' => M' = (g_CT_stepClocks M)) (fl_E D cls ad (xc ad cA) 88) (fl_A ad 88)) ([.ref (ad 15)] : List Value).toArray s 0 0 (fl_A ad 88)) (F0 m 23 ls [])) → W p l e (headSpec w_CT_stepClocks ({ frames := 4, cells := 0, slots := 0, locals := 81 } : Room)).room s m ([.ref (ad 15)] : List Value).toArray below meth c H locs 0 0 (MQ below (va_Qv (fun M' => M' = (g_CT_stepClocks M)) (fl_E D cls ad (xc ad cA) 88) (fl_A ad 88)) ([.ref (ad 15)] : List Value).toArray s 0 0 (fl_A ad 88)) (F0 m 2 ls []) := by
    intro k_2
    induction k_2 with
    | zero =>
      intro i_2 M1 ls H locs hbd hl hP hS kk
      have hG : g_CT_stepClocks_L2  0 i_2 M1 = _ := g_CT_stepClocks_L2.eq_1 ..
      refine lv_iload_n hx hb d_CT_stepClocks_2 rfl (lv_at hl 1 rfl) ?_
      refine lv_bipush (v := 16) hx hb d_CT_stepClocks_3 (by decide) ?_
      refine lv_icmp_ge (tgt := 23) hx hb d_CT_stepClocks_5 (by decide) (fun _ => ?_) (fun h_1 => absurd (fl_le (b := 16) rfl (by omega) (by omega)) h_1)
      have hl := lv_sub (l' := [(0, .ref (ad 15))]) hl [0] rfl
      exact kk (M1) ls _ _ hG.symm hl hP hS
    | succ k_2 ih_2 =>
      intro i_2 M1 ls H locs hbd hl hP hS kk
      have hG : g_CT_stepClocks_L2  (k_2 + 1) i_2 M1 = _ := g_CT_stepClocks_L2.eq_2 ..
      refine lv_iload_n hx hb d_CT_stepClocks_2 rfl (lv_at hl 1 rfl) ?_
      refine lv_bipush (v := 16) hx hb d_CT_stepClocks_3 (by decide) ?_
      refine lv_icmp_ge (tgt := 23) hx hb d_CT_stepClocks_5 (by decide) (fun h_2 => absurd h_2 (fl_nle (b := 16) rfl (by omega) (by omega))) (fun _ => ?_)
      refine lv_aload_n hx hb d_CT_stepClocks_8 rfl (lv_at hl 0 rfl) ?_
      refine gg_CT (k := 1) (v := .ref (ad 17)) hx hb hts hown hK hP  (hts _ (List.mem_cons_of_mem _ tw_269)) (by decide) rfl rfl d_CT_stepClocks_9 ?_
      refine lv_iload_n hx hb d_CT_stepClocks_12 rfl (lv_at hl 1 rfl) ?_
      have hs_3 : vp_in (nI i_2) 16 := vp_in_nI (by omega) (by decide)
      refine ar_CRS hx hb hK hP hs_3 d_CT_stepClocks_13 ?_
      have hP : va_P D cls (fl_w ad (xc ad cA) 88 (pCR M1 (56 + 2 * (nI i_2).toNatClampNeg) (M1.1 (56 + 2 * (nI i_2).toNatClampNeg)) (M1.1 ((56 + 2 * (nI i_2).toNatClampNeg) + 1)))) H := by rw [id_CR]; exact hP
      refine fl_callv (va_runV (As := []) (rest := []) ⟨hx, hb, hml, hown, hts⟩ (c_CR_stepClocks l hi (is_CRof hs_3) M1 (M1.1 (56 + 2 * (nI i_2).toNatClampNeg)) (M1.1 ((56 + 2 * (nI i_2).toNatClampNeg) + 1))) (kv_CR_stepClocks hts (hts _ (List.mem_cons_of_mem _ tw_527)) ⟨Nat.le_of_ble_eq_true rfl, Nat.le_of_ble_eq_true rfl⟩) (fl_preV hK hSt hN hS hP (lt_CR (is_CRof hs_3)) (kc_CR (is_CRof hs_3)) rfl) rfl rfl hl.1 rfl (lv_room (Nat.le_of_ble_eq_true rfl)) d_CT_stepClocks_14 ⟨Nat.zero_le _, Nat.zero_le _⟩) hS (fun H locs hP hS => ?_)
      refine lv_iinc (k := 1) (v := nI (i_2 + 1)) (lv' := [(1, .int (nI (i_2 + 1))), (0, .ref (ad 15))]) hx hb d_CT_stepClocks_17 hl rfl (fl_inc _) (by decide) rfl (fun ls hl => ?_)
      refine lv_goto (tgt := 2) hx hb d_CT_stepClocks_20 (by decide) ?_
      have hl := lv_sub (l' := [(0, .ref (ad 15)), (1, .int (nI (i_2 + 1)))]) hl [1, 0] rfl
      exact ih_2 (i_2 + 1) (pCR M1 (56 + 2 * (nI i_2).toNatClampNeg) ((g_CR_stepClocks (M1.1 (56 + 2 * (nI i_2).toNatClampNeg)) (M1.1 ((56 + 2 * (nI i_2).toNatClampNeg) + 1))).1) ((g_CR_stepClocks (M1.1 (56 + 2 * (nI i_2).toNatClampNeg)) (M1.1 ((56 + 2 * (nI i_2).toNatClampNeg) + 1))).2)) ls _ _ (by omega) hl hP hS (fun v ls H locs hv => kk v ls H locs (hv.trans hG.symm))
  have hl := lv_sub (l' := [(0, .ref (ad 15)), (1, .int (nI 0))]) hl [1, 0] rfl
  refine lp_2 16 0 M ls _ _ (by omega) hl hP hS (fun v ls H locs hv hl hP hS => ?_)
  subst hv
  exact fl_vret hx hb hr hlocks hP hS (by rw [hG]) d_CT_stepClocks_23
theorem hd_CT_stepClocks : y_CT_stepClocks.cls ≠ "java/lang/invoke/MethodHandle" ∧ y_CT_stepClocks.cls ≠ "java/lang/invoke/VarHandle" ∧ (parseMethodDescriptor y_CT_stepClocks.desc).map (fun d => d.parameters.length) = some 0 := by decide +kernel
theorem kv_CT_stepClocks {R : Room} {s : State} {args : Array Value} {c0 : Cond} {own : String} {index : Nat} (hts : ∀ w ∈ c0 :: gw, w.before args s = true) (hl : (Cond.methodLink own index y_CT_stepClocks).before args s = true) (hR : 4 + 1 ≤ R.frames ∧ 8 + (2 + 11) + 81 ≤ R.locals) : CallW R s args own "FarLink$Craft" index y_CT_stepClocks b_CT_stepClocks 2 none w_CT_stepClocks ({ frames := 4, cells := 0, slots := 0, locals := 81 } : Room) 0 0 0 := ⟨callB_of 0 hts (gw_in tw_526) rfl rfl rfl (hts _ (List.mem_cons_of_mem _ tw_7)) hl hd_CT_stepClocks hR, hts _ (List.mem_cons_of_mem _ tw_524), hts _ (List.mem_cons_of_mem _ tw_525)⟩
def g_CT_nextInfo_L2 (M : fl_M) : Nat → Nat → (Int64 × fl_M)
  | 0, i_2 => ((g_CF_reportBits (M.1 16)).toInt64, M)
  | k_2 + 1, i_2 => if (g_CR_owesAny (M.1 (56 + 2 * (nI i_2).toNatClampNeg)) (M.1 ((56 + 2 * (nI i_2).toNatClampNeg) + 1))) = 0 then (g_CT_nextInfo_L2 M k_2 (i_2 + 1)) else (((((g_CR_payOne (M.1 (56 + 2 * (nI i_2).toNatClampNeg)) (M.1 ((56 + 2 * (nI i_2).toNatClampNeg) + 1))).1) ||| (j_lshl ((nI i_2).toInt64) 12)) ||| ((g_CF_reportBits ((pCR M (56 + 2 * (nI i_2).toNatClampNeg) ((g_CR_payOne (M.1 (56 + 2 * (nI i_2).toNatClampNeg)) (M.1 ((56 + 2 * (nI i_2).toNatClampNeg) + 1))).2.1) ((g_CR_payOne (M.1 (56 + 2 * (nI i_2).toNatClampNeg)) (M.1 ((56 + 2 * (nI i_2).toNatClampNeg) + 1))).2.2)).1 16)).toInt64), (pCR M (56 + 2 * (nI i_2).toNatClampNeg) ((g_CR_payOne (M.1 (56 + 2 * (nI i_2).toNatClampNeg)) (M.1 ((56 + 2 * (nI i_2).toNatClampNeg) + 1))).2.1) ((g_CR_payOne (M.1 (56 + 2 * (nI i_2).toNatClampNeg)) (M.1 ((56 + 2 * (nI i_2).toNatClampNeg) + 1))).2.2))))
def g_CT_nextInfo (M : fl_M) : Int64 × fl_M :=
  g_CT_nextInfo_L2 M 16 0
set_option maxHeartbeats 4000000 in
set_option maxRecDepth 100000 in
theorem c_CT_nextInfo (l : Launch) {D : va_G} {ad : Nat → Nat} {cA : Nat → ClassId} {st : Nat → Nat} (hi : fl_inj ad 88) (M : fl_M) : Met l y_CT_nextInfo w_CT_nextInfo ({ frames := 3, cells := 0, slots := 0, locals := 60 } : Room) (va_Pc [.ref (ad 15)] (fl_B D cls (xt cA) (xSL st) xFN xMN ad (xc ad cA) 88 M)) (va_Ql (fun r M' => r = (g_CT_nextInfo M).1 ∧ M' = ((g_CT_nextInfo M).2)) (fl_E D cls ad (xc ad cA) 88) (fl_A ad 88)) 0 0 (fl_A ad 88) := by
  refine Met.ofW (cc := b_CT_nextInfo) (maxL := 2) (ret := (some .long)) (by decide) rfl ?_
  intro p e s m args below meth c s₁ B hml hv
  obtain ⟨rfl, hP, hK, hSt, hN⟩ := hv
  have hx := B.exec
  have hb := B.bytes
  have hr := B.returns
  have hts := atoms_spec (ws := w_CT_nextInfo) B.pre
  have hown : s.vm.findClass "FarLink$Craft" = some m.cls := findClass_of_methodNamed B.named
  have hlocks := B.notSynchronized
  have hS : va_S (fl_A ad 88) s.heap s.heap [] := va_S.rf
  have hl := lv_entry ([.ref (ad 15)]) (n := 2) (Nat.le_of_ble_eq_true rfl)
  rw [lg_entry_eq]
  generalize (lg_sl ([.ref (ad 15)]) ++ List.replicate (2 - (lg_sl ([.ref (ad 15)])).length) Slot.unset).toArray = ls at hl ⊢
  have hl : lv_has ls 2 [(0, .ref (ad 15))] := hl
  have hG := g_CT_nextInfo.eq_1 M
  refine lv_iconst (v := 0) hx hb d_CT_nextInfo_0 (by decide) ?_
  refine lv_istore_n (lv' := [(1, .int 0), (0, .ref (ad 15))]) hx hb d_CT_nextInfo_1 rfl hl (by decide) rfl (fun ls hl => ?_)
  have lp_2 : ∀ (k_2 : Nat) (i_2 : Nat) (ls : Array Slot) (H : Heap) (locs : List Loc), i_2 + k_2 = 16 → lv_has ls 2 [(0, .ref (ad 15)), (1, .int (nI i_2))] → va_P D cls (fl_w ad (xc ad cA) 88 M) H → va_S (fl_A ad 88) s.heap H locs → g_CT_nextInfo M = g_CT_nextInfo_L2 M k_2 i_2 → W p l e (headSpec w_CT_nextInfo ({ frames := 3, cells := 0, slots := 0, locals := 60 } : Room)).room s m ([.ref (ad 15)] : List Value).toArray below meth c H locs 0 0 (MQ below (va_Ql (fun r M' => r = (g_CT_nextInfo M).1 ∧ M' = ((g_CT_nextInfo M).2)) (fl_E D cls ad (xc ad cA) 88) (fl_A ad 88)) ([.ref (ad 15)] : List Value).toArray s 0 0 (fl_A ad 88)) (F0 m 2 ls []) := by
    intro k_2
    induction k_2 with
    | zero =>
      intro i_2 ls H locs hbd hl hP hS hG
      have hG := hG.trans (g_CT_nextInfo_L2.eq_1 ..)
      refine lv_iload_n hx hb d_CT_nextInfo_2 rfl (lv_at hl 1 rfl) ?_
      refine lv_bipush (v := 16) hx hb d_CT_nextInfo_3 (by decide) ?_
      refine lv_icmp_ge (tgt := 51) hx hb d_CT_nextInfo_5 (by decide) (fun _ => ?_) (fun h_1 => absurd (fl_le (b := 16) rfl (by omega) (by omega)) h_1)
      refine lv_aload_n hx hb d_CT_nextInfo_51 rfl (lv_at hl 0 rfl) ?_
      refine gg_CT (k := 0) (v := .ref (ad 16)) hx hb hts hown hK hP  (hts _ (List.mem_cons_of_mem _ tw_267)) (by decide) rfl rfl d_CT_nextInfo_52 ?_
      have hP : va_P D cls (fl_w ad (xc ad cA) 88 (pCF M (M.1 16))) H := by rw [id_CF]; exact hP
      refine fl_calli (va_runV (As := []) (rest := []) ⟨hx, hb, hml, hown, hts⟩ (c_CF_reportBits l hi M (M.1 16)) (kv_CF_reportBits hts (hts _ (List.mem_cons_of_mem _ tw_554)) ⟨Nat.le_of_ble_eq_true rfl, Nat.le_of_ble_eq_true rfl⟩) (fl_preV hK hSt hN hS hP (by decide) (kc_CF) rfl) rfl rfl hl.1 rfl (lv_room (Nat.le_of_ble_eq_true rfl)) d_CT_nextInfo_55 ⟨Nat.zero_le _, Nat.zero_le _⟩) hS (fun H locs hP hS => ?_)
      have hP : va_P D cls (fl_w ad (xc ad cA) 88 M) H := by rw [id_CF] at hP; exact hP
      refine lv_i2l (v := (g_CF_reportBits (M.1 16)).toInt64) hx hb d_CT_nextInfo_58 rfl ?_
      exact fl_lret hx hb hr hlocks hP hS (congrArg Prod.fst hG).symm (by rw [hG]) d_CT_nextInfo_59
    | succ k_2 ih_2 =>
      intro i_2 ls H locs hbd hl hP hS hG
      have hG := hG.trans (g_CT_nextInfo_L2.eq_2 ..)
      refine lv_iload_n hx hb d_CT_nextInfo_2 rfl (lv_at hl 1 rfl) ?_
      refine lv_bipush (v := 16) hx hb d_CT_nextInfo_3 (by decide) ?_
      refine lv_icmp_ge (tgt := 51) hx hb d_CT_nextInfo_5 (by decide) (fun h_2 => absurd h_2 (fl_nle (b := 16) rfl (by omega) (by omega))) (fun _ => ?_)
      refine lv_aload_n hx hb d_CT_nextInfo_8 rfl (lv_at hl 0 rfl) ?_
      refine gg_CT (k := 1) (v := .ref (ad 17)) hx hb hts hown hK hP  (hts _ (List.mem_cons_of_mem _ tw_269)) (by decide) rfl rfl d_CT_nextInfo_9 ?_
      refine lv_iload_n hx hb d_CT_nextInfo_12 rfl (lv_at hl 1 rfl) ?_
      have hs_3 : vp_in (nI i_2) 16 := vp_in_nI (by omega) (by decide)
      refine ar_CRS hx hb hK hP hs_3 d_CT_nextInfo_13 ?_
      have hP : va_P D cls (fl_w ad (xc ad cA) 88 (pCR M (56 + 2 * (nI i_2).toNatClampNeg) (M.1 (56 + 2 * (nI i_2).toNatClampNeg)) (M.1 ((56 + 2 * (nI i_2).toNatClampNeg) + 1)))) H := by rw [id_CR]; exact hP
      refine fl_calli (va_runV (As := []) (rest := []) ⟨hx, hb, hml, hown, hts⟩ (c_CR_owesAny l hi (is_CRof hs_3) M (M.1 (56 + 2 * (nI i_2).toNatClampNeg)) (M.1 ((56 + 2 * (nI i_2).toNatClampNeg) + 1))) (kv_CR_owesAny hts (hts _ (List.mem_cons_of_mem _ tw_543)) ⟨Nat.le_of_ble_eq_true rfl, Nat.le_of_ble_eq_true rfl⟩) (fl_preV hK hSt hN hS hP (lt_CR (is_CRof hs_3)) (kc_CR (is_CRof hs_3)) rfl) rfl rfl hl.1 rfl (lv_room (Nat.le_of_ble_eq_true rfl)) d_CT_nextInfo_14 ⟨Nat.zero_le _, Nat.zero_le _⟩) hS (fun H locs hP hS => ?_)
      have hP : va_P D cls (fl_w ad (xc ad cA) 88 M) H := by rw [id_CR] at hP; exact hP
      refine lv_if_eq (tgt := 45) hx hb d_CT_nextInfo_17 (by decide) (fun h_4 => ?_) (fun h_4 => ?_)
      ·
        have hG := hG.trans (if_pos h_4)
        refine lv_iinc (k := 1) (v := nI (i_2 + 1)) (lv' := [(1, .int (nI (i_2 + 1))), (0, .ref (ad 15))]) hx hb d_CT_nextInfo_45 hl rfl (fl_inc _) (by decide) rfl (fun ls hl => ?_)
        refine lv_goto (tgt := 2) hx hb d_CT_nextInfo_48 (by decide) ?_
        have hl := lv_sub (l' := [(0, .ref (ad 15)), (1, .int (nI (i_2 + 1)))]) hl [1, 0] rfl
        exact ih_2 (i_2 + 1) ls _ _ (by omega) hl hP hS hG
      ·
        have hG := hG.trans (if_neg h_4)
        refine lv_aload_n hx hb d_CT_nextInfo_20 rfl (lv_at hl 0 rfl) ?_
        refine gg_CT (k := 1) (v := .ref (ad 17)) hx hb hts hown hK hP  (hts _ (List.mem_cons_of_mem _ tw_269)) (by decide) rfl rfl d_CT_nextInfo_21 ?_
        refine lv_iload_n hx hb d_CT_nextInfo_24 rfl (lv_at hl 1 rfl) ?_
        have hs_5 : vp_in (nI i_2) 16 := vp_in_nI (by omega) (by decide)
        refine ar_CRS hx hb hK hP hs_5 d_CT_nextInfo_25 ?_
        have hP : va_P D cls (fl_w ad (xc ad cA) 88 (pCR M (56 + 2 * (nI i_2).toNatClampNeg) (M.1 (56 + 2 * (nI i_2).toNatClampNeg)) (M.1 ((56 + 2 * (nI i_2).toNatClampNeg) + 1)))) H := by rw [id_CR]; exact hP
        refine fl_calll (va_runV (As := []) (rest := []) ⟨hx, hb, hml, hown, hts⟩ (c_CR_payOne l hi (is_CRof hs_5) M (M.1 (56 + 2 * (nI i_2).toNatClampNeg)) (M.1 ((56 + 2 * (nI i_2).toNatClampNeg) + 1))) (kv_CR_payOne hts (hts _ (List.mem_cons_of_mem _ tw_547)) ⟨Nat.le_of_ble_eq_true rfl, Nat.le_of_ble_eq_true rfl⟩) (fl_preV hK hSt hN hS hP (lt_CR (is_CRof hs_5)) (kc_CR (is_CRof hs_5)) rfl) rfl rfl hl.1 rfl (lv_room (Nat.le_of_ble_eq_true rfl)) d_CT_nextInfo_26 ⟨Nat.zero_le _, Nat.zero_le _⟩) hS (fun H locs hP hS => ?_)
        refine lv_iload_n hx hb d_CT_nextInfo_29 rfl (lv_at hl 1 rfl) ?_
        refine lv_i2l (v := (nI i_2).toInt64) hx hb d_CT_nextInfo_30 rfl ?_
        refine lv_bipush (v := 12) hx hb d_CT_nextInfo_31 (by decide) ?_
        refine lv_lshl (v := j_lshl ((nI i_2).toInt64) 12) hx hb d_CT_nextInfo_33 rfl ?_
        refine lv_lor hx hb d_CT_nextInfo_34 ?_
        refine lv_aload_n hx hb d_CT_nextInfo_35 rfl (lv_at hl 0 rfl) ?_
        refine gg_CT (k := 0) (v := .ref (ad 16)) hx hb hts hown hK hP  (hts _ (List.mem_cons_of_mem _ tw_267)) (by decide) rfl rfl d_CT_nextInfo_36 ?_
        have hP : va_P D cls (fl_w ad (xc ad cA) 88 (pCF (pCR M (56 + 2 * (nI i_2).toNatClampNeg) ((g_CR_payOne (M.1 (56 + 2 * (nI i_2).toNatClampNeg)) (M.1 ((56 + 2 * (nI i_2).toNatClampNeg) + 1))).2.1) ((g_CR_payOne (M.1 (56 + 2 * (nI i_2).toNatClampNeg)) (M.1 ((56 + 2 * (nI i_2).toNatClampNeg) + 1))).2.2)) ((pCR M (56 + 2 * (nI i_2).toNatClampNeg) ((g_CR_payOne (M.1 (56 + 2 * (nI i_2).toNatClampNeg)) (M.1 ((56 + 2 * (nI i_2).toNatClampNeg) + 1))).2.1) ((g_CR_payOne (M.1 (56 + 2 * (nI i_2).toNatClampNeg)) (M.1 ((56 + 2 * (nI i_2).toNatClampNeg) + 1))).2.2)).1 16))) H := by rw [id_CF]; exact hP
        refine fl_calli (va_runV (As := []) (rest := [.long (((g_CR_payOne (M.1 (56 + 2 * (nI i_2).toNatClampNeg)) (M.1 ((56 + 2 * (nI i_2).toNatClampNeg) + 1))).1) ||| (j_lshl ((nI i_2).toInt64) 12))]) ⟨hx, hb, hml, hown, hts⟩ (c_CF_reportBits l hi (pCR M (56 + 2 * (nI i_2).toNatClampNeg) ((g_CR_payOne (M.1 (56 + 2 * (nI i_2).toNatClampNeg)) (M.1 ((56 + 2 * (nI i_2).toNatClampNeg) + 1))).2.1) ((g_CR_payOne (M.1 (56 + 2 * (nI i_2).toNatClampNeg)) (M.1 ((56 + 2 * (nI i_2).toNatClampNeg) + 1))).2.2)) ((pCR M (56 + 2 * (nI i_2).toNatClampNeg) ((g_CR_payOne (M.1 (56 + 2 * (nI i_2).toNatClampNeg)) (M.1 ((56 + 2 * (nI i_2).toNatClampNeg) + 1))).2.1) ((g_CR_payOne (M.1 (56 + 2 * (nI i_2).toNatClampNeg)) (M.1 ((56 + 2 * (nI i_2).toNatClampNeg) + 1))).2.2)).1 16)) (kv_CF_reportBits hts (hts _ (List.mem_cons_of_mem _ tw_554)) ⟨Nat.le_of_ble_eq_true rfl, Nat.le_of_ble_eq_true rfl⟩) (fl_preV hK hSt hN hS hP (by decide) (kc_CF) rfl) rfl rfl hl.1 rfl (lv_room (Nat.le_of_ble_eq_true rfl)) d_CT_nextInfo_39 ⟨Nat.zero_le _, Nat.zero_le _⟩) hS (fun H locs hP hS => ?_)
        have hP : va_P D cls (fl_w ad (xc ad cA) 88 (pCR M (56 + 2 * (nI i_2).toNatClampNeg) ((g_CR_payOne (M.1 (56 + 2 * (nI i_2).toNatClampNeg)) (M.1 ((56 + 2 * (nI i_2).toNatClampNeg) + 1))).2.1) ((g_CR_payOne (M.1 (56 + 2 * (nI i_2).toNatClampNeg)) (M.1 ((56 + 2 * (nI i_2).toNatClampNeg) + 1))).2.2))) H := by rw [id_CF] at hP; exact hP
        refine lv_i2l (v := (g_CF_reportBits ((pCR M (56 + 2 * (nI i_2).toNatClampNeg) ((g_CR_payOne (M.1 (56 + 2 * (nI i_2).toNatClampNeg)) (M.1 ((56 + 2 * (nI i_2).toNatClampNeg) + 1))).2.1) ((g_CR_payOne (M.1 (56 + 2 * (nI i_2).toNatClampNeg)) (M.1 ((56 + 2 * (nI i_2).toNatClampNeg) + 1))).2.2)).1 16)).toInt64) hx hb d_CT_nextInfo_42 rfl ?_
        refine lv_lor hx hb d_CT_nextInfo_43 ?_
        exact fl_lret hx hb hr hlocks hP hS (congrArg Prod.fst hG).symm (by rw [hG]) d_CT_nextInfo_44
  have hl := lv_sub (l' := [(0, .ref (ad 15)), (1, .int (nI 0))]) hl [1, 0] rfl
  exact lp_2 16 0 ls _ _ (by omega) hl hP hS hG
theorem hd_CT_nextInfo : y_CT_nextInfo.cls ≠ "java/lang/invoke/MethodHandle" ∧ y_CT_nextInfo.cls ≠ "java/lang/invoke/VarHandle" ∧ (parseMethodDescriptor y_CT_nextInfo.desc).map (fun d => d.parameters.length) = some 0 := by decide +kernel
theorem kv_CT_nextInfo {R : Room} {s : State} {args : Array Value} {c0 : Cond} {own : String} {index : Nat} (hts : ∀ w ∈ c0 :: gw, w.before args s = true) (hl : (Cond.methodLink own index y_CT_nextInfo).before args s = true) (hR : 3 + 1 ≤ R.frames ∧ 8 + (2 + 11) + 60 ≤ R.locals) : CallW R s args own "FarLink$Craft" index y_CT_nextInfo b_CT_nextInfo 2 (some .long) w_CT_nextInfo ({ frames := 3, cells := 0, slots := 0, locals := 60 } : Room) 0 0 0 := ⟨callB_of 0 hts (gw_in tw_542) rfl rfl rfl (hts _ (List.mem_cons_of_mem _ tw_7)) hl hd_CT_nextInfo hR, hts _ (List.mem_cons_of_mem _ tw_540), hts _ (List.mem_cons_of_mem _ tw_541)⟩
def g_CT_countClosed_L4 (M : fl_M) : Nat → Nat → Int32 → Int32
  | 0, i_4, cc => (cc)
  | k_4 + 1, i_4, cc => if (M.1 (56 + 2 * (nI i_4).toNatClampNeg) 2) = 3 then (g_CT_countClosed_L4 M k_4 (i_4 + 1) (cc + Int32.ofInt 1)) else (g_CT_countClosed_L4 M k_4 (i_4 + 1) cc)
def g_CT_countClosed (M : fl_M) : Int32 :=
  (g_CT_countClosed_L4 M 16 0 0)
set_option maxHeartbeats 4000000 in
set_option maxRecDepth 100000 in
theorem c_CT_countClosed (l : Launch) {D : va_G} {ad : Nat → Nat} {cA : Nat → ClassId} {st : Nat → Nat} (hi : fl_inj ad 88) (M : fl_M) : Met l y_CT_countClosed w_CT_countClosed ({ frames := 0, cells := 0, slots := 0, locals := 0 } : Room) (va_Pc [.ref (ad 15)] (fl_B D cls (xt cA) (xSL st) xFN xMN ad (xc ad cA) 88 M)) (va_Qi (fun r M' => r = (g_CT_countClosed M) ∧ M' = M) (fl_E D cls ad (xc ad cA) 88) (fl_A ad 88)) 0 0 (fl_A ad 88) := by
  refine Met.ofW (cc := b_CT_countClosed) (maxL := 3) (ret := (some .int)) (by decide) rfl ?_
  intro p e s m args below meth c s₁ B hml hv
  obtain ⟨rfl, hP, hK, hSt, hN⟩ := hv
  have hx := B.exec
  have hb := B.bytes
  have hr := B.returns
  have hts := atoms_spec (ws := w_CT_countClosed) B.pre
  have hown : s.vm.findClass "FarLink$Craft" = some m.cls := findClass_of_methodNamed B.named
  have hlocks := B.notSynchronized
  have hS : va_S (fl_A ad 88) s.heap s.heap [] := va_S.rf
  have hl := lv_entry ([.ref (ad 15)]) (n := 3) (Nat.le_of_ble_eq_true rfl)
  rw [lg_entry_eq]
  generalize (lg_sl ([.ref (ad 15)]) ++ List.replicate (3 - (lg_sl ([.ref (ad 15)])).length) Slot.unset).toArray = ls at hl ⊢
  have hl : lv_has ls 3 [(0, .ref (ad 15))] := hl
  have hG := g_CT_countClosed.eq_1 M
  refine lv_iconst (v := 0) hx hb d_CT_countClosed_0 (by decide) ?_
  refine lv_istore_n (lv' := [(1, .int 0), (0, .ref (ad 15))]) hx hb d_CT_countClosed_1 rfl hl (by decide) rfl (fun ls hl => ?_)
  refine lv_iconst (v := 0) hx hb d_CT_countClosed_2 (by decide) ?_
  refine lv_istore_n (lv' := [(2, .int 0), (1, .int 0), (0, .ref (ad 15))]) hx hb d_CT_countClosed_3 rfl hl (by decide) rfl (fun ls hl => ?_)
  have lp_4 : ∀ (k_4 : Nat) (i_4 : Nat) (cc : Int32) (ls : Array Slot) (H : Heap) (locs : List Loc), i_4 + k_4 = 16 → lv_has ls 3 [(0, .ref (ad 15)), (1, .int cc), (2, .int (nI i_4))] → va_P D cls (fl_w ad (xc ad cA) 88 M) H → va_S (fl_A ad 88) s.heap H locs → (∀ (v : Int32) (ls : Array Slot) (H : Heap) (locs : List Loc), v = g_CT_countClosed_L4 M k_4 i_4 cc → lv_has ls 3 [(0, .ref (ad 15)), (1, .int v)] → va_P D cls (fl_w ad (xc ad cA) 88 M) H → va_S (fl_A ad 88) s.heap H locs → W p l e (headSpec w_CT_countClosed ({ frames := 0, cells := 0, slots := 0, locals := 0 } : Room)).room s m ([.ref (ad 15)] : List Value).toArray below meth c H locs 0 0 (MQ below (va_Qi (fun r M' => r = (g_CT_countClosed M) ∧ M' = M) (fl_E D cls ad (xc ad cA) 88) (fl_A ad 88)) ([.ref (ad 15)] : List Value).toArray s 0 0 (fl_A ad 88)) (F0 m 32 ls [])) → W p l e (headSpec w_CT_countClosed ({ frames := 0, cells := 0, slots := 0, locals := 0 } : Room)).room s m ([.ref (ad 15)] : List Value).toArray below meth c H locs 0 0 (MQ below (va_Qi (fun r M' => r = (g_CT_countClosed M) ∧ M' = M) (fl_E D cls ad (xc ad cA) 88) (fl_A ad 88)) ([.ref (ad 15)] : List Value).toArray s 0 0 (fl_A ad 88)) (F0 m 4 ls []) := by
    intro k_4
    induction k_4 with
    | zero =>
      intro i_4 cc ls H locs hbd hl hP hS kk
      have hG : g_CT_countClosed_L4 M 0 i_4 cc = _ := g_CT_countClosed_L4.eq_1 ..
      refine lv_iload_n hx hb d_CT_countClosed_4 rfl (lv_at hl 2 rfl) ?_
      refine lv_bipush (v := 16) hx hb d_CT_countClosed_5 (by decide) ?_
      refine lv_icmp_ge (tgt := 32) hx hb d_CT_countClosed_7 (by decide) (fun _ => ?_) (fun h_1 => absurd (fl_le (b := 16) rfl (by omega) (by omega)) h_1)
      have hl := lv_sub (l' := [(0, .ref (ad 15)), (1, .int cc)]) hl [0, 1] rfl
      exact kk (cc) ls _ _ hG.symm hl hP hS
    | succ k_4 ih_4 =>
      intro i_4 cc ls H locs hbd hl hP hS kk
      have hG : g_CT_countClosed_L4 M (k_4 + 1) i_4 cc = _ := g_CT_countClosed_L4.eq_2 ..
      refine lv_iload_n hx hb d_CT_countClosed_4 rfl (lv_at hl 2 rfl) ?_
      refine lv_bipush (v := 16) hx hb d_CT_countClosed_5 (by decide) ?_
      refine lv_icmp_ge (tgt := 32) hx hb d_CT_countClosed_7 (by decide) (fun h_2 => absurd h_2 (fl_nle (b := 16) rfl (by omega) (by omega))) (fun _ => ?_)
      refine lv_aload_n hx hb d_CT_countClosed_10 rfl (lv_at hl 0 rfl) ?_
      refine gg_CT (k := 1) (v := .ref (ad 17)) hx hb hts hown hK hP  (hts _ (List.mem_cons_of_mem _ tw_269)) (by decide) rfl rfl d_CT_countClosed_11 ?_
      refine lv_iload_n hx hb d_CT_countClosed_14 rfl (lv_at hl 2 rfl) ?_
      have hs_3 : vp_in (nI i_4) 16 := vp_in_nI (by omega) (by decide)
      refine ar_CRS hx hb hK hP hs_3 d_CT_countClosed_15 ?_
      refine gg_CRN (k := 2) (v := .int (M.1 (56 + 2 * (nI i_4).toNatClampNeg) 2)) hx hb hts hown hK hP (is_CRof hs_3) (hN.f 12 rfl) (by decide) rfl rfl d_CT_countClosed_16 ?_
      refine lv_iconst (v := 3) hx hb d_CT_countClosed_19 (by decide) ?_
      refine lv_icmp_ne (tgt := 26) hx hb d_CT_countClosed_20 (by decide) (fun h_4 => ?_) (fun h_4 => ?_)
      ·
        have hG := hG.trans (if_neg h_4)
        refine lv_iinc (k := 2) (v := nI (i_4 + 1)) (lv' := [(2, .int (nI (i_4 + 1))), (0, .ref (ad 15)), (1, .int cc)]) hx hb d_CT_countClosed_26 hl rfl (fl_inc _) (by decide) rfl (fun ls hl => ?_)
        refine lv_goto (tgt := 4) hx hb d_CT_countClosed_29 (by decide) ?_
        have hl := lv_sub (l' := [(0, .ref (ad 15)), (1, .int cc), (2, .int (nI (i_4 + 1)))]) hl [1, 2, 0] rfl
        exact ih_4 (i_4 + 1) cc ls _ _ (by omega) hl hP hS (fun v ls H locs hv => kk v ls H locs (hv.trans hG.symm))
      ·
        have hG := hG.trans (if_pos h_4)
        refine lv_iinc (k := 1) (v := cc + Int32.ofInt 1) (lv' := [(1, .int (cc + Int32.ofInt 1)), (0, .ref (ad 15)), (2, .int (nI i_4))]) hx hb d_CT_countClosed_23 hl rfl (rfl) (by decide) rfl (fun ls hl => ?_)
        refine lv_iinc (k := 2) (v := nI (i_4 + 1)) (lv' := [(2, .int (nI (i_4 + 1))), (1, .int (cc + Int32.ofInt 1)), (0, .ref (ad 15))]) hx hb d_CT_countClosed_26 hl rfl (fl_inc _) (by decide) rfl (fun ls hl => ?_)
        refine lv_goto (tgt := 4) hx hb d_CT_countClosed_29 (by decide) ?_
        have hl := lv_sub (l' := [(0, .ref (ad 15)), (1, .int (cc + Int32.ofInt 1)), (2, .int (nI (i_4 + 1)))]) hl [2, 1, 0] rfl
        exact ih_4 (i_4 + 1) (cc + Int32.ofInt 1) ls _ _ (by omega) hl hP hS (fun v ls H locs hv => kk v ls H locs (hv.trans hG.symm))
  have hl := lv_sub (l' := [(0, .ref (ad 15)), (1, .int 0), (2, .int (nI 0))]) hl [2, 1, 0] rfl
  refine lp_4 16 0 0 ls _ _ (by omega) hl hP hS (fun v ls H locs hv hl hP hS => ?_)
  subst hv
  refine lv_iload_n hx hb d_CT_countClosed_32 rfl (lv_at hl 1 rfl) ?_
  exact fl_iret hx hb hr hlocks hP hS hG.symm rfl d_CT_countClosed_33
theorem hd_CT_countClosed : y_CT_countClosed.cls ≠ "java/lang/invoke/MethodHandle" ∧ y_CT_countClosed.cls ≠ "java/lang/invoke/VarHandle" ∧ (parseMethodDescriptor y_CT_countClosed.desc).map (fun d => d.parameters.length) = some 0 := by decide +kernel
theorem kv_CT_countClosed {R : Room} {s : State} {args : Array Value} {c0 : Cond} {own : String} {index : Nat} (hts : ∀ w ∈ c0 :: gw, w.before args s = true) (hl : (Cond.methodLink own index y_CT_countClosed).before args s = true) (hR : 0 + 1 ≤ R.frames ∧ 8 + (3 + 11) + 0 ≤ R.locals) : CallW R s args own "FarLink$Craft" index y_CT_countClosed b_CT_countClosed 3 (some .int) w_CT_countClosed ({ frames := 0, cells := 0, slots := 0, locals := 0 } : Room) 0 0 0 := ⟨callB_of 0 hts (gw_in tw_378) rfl rfl rfl (hts _ (List.mem_cons_of_mem _ tw_7)) hl hd_CT_countClosed hR, hts _ (List.mem_cons_of_mem _ tw_376), hts _ (List.mem_cons_of_mem _ tw_377)⟩
def g_CT_storedAt (M : fl_M) (x1 : Int32) (x2 : Int32) : Int32 :=
  if x2 = (-1) then (M.1 18 x1.toNatClampNeg) else (if (g_FL_isBelow x2 (M.1 18 x1.toNatClampNeg)) = 0 then (0) else (M.1 (20 + x1.toNatClampNeg) x2.toNatClampNeg))
set_option maxHeartbeats 4000000 in
set_option maxRecDepth 100000 in
theorem c_CT_storedAt (l : Launch) {D : va_G} {ad : Nat → Nat} {cA : Nat → ClassId} {st : Nat → Nat} (hi : fl_inj ad 88) (M : fl_M) (x1 : Int32) (x2 : Int32) (hv1 : vp_in x1 4) (hsl : ∀ i : Nat, i < 4 → M.1 18 i ≤ 16) : Met l y_CT_storedAt w_CT_storedAt ({ frames := 1, cells := 0, slots := 0, locals := 21 } : Room) (va_Pc [.ref (ad 15), .int x1, .int x2] (fl_B D cls (xt cA) (xSL st) xFN xMN ad (xc ad cA) 88 M)) (va_Qi (fun r M' => r = (g_CT_storedAt M x1 x2) ∧ M' = M) (fl_E D cls ad (xc ad cA) 88) (fl_A ad 88)) 0 0 (fl_A ad 88) := by
  refine Met.ofW (cc := b_CT_storedAt) (maxL := 3) (ret := (some .int)) (by decide) rfl ?_
  intro p e s m args below meth c s₁ B hml hv
  obtain ⟨rfl, hP, hK, hSt, hN⟩ := hv
  have hx := B.exec
  have hb := B.bytes
  have hr := B.returns
  have hts := atoms_spec (ws := w_CT_storedAt) B.pre
  have hown : s.vm.findClass "FarLink$Craft" = some m.cls := findClass_of_methodNamed B.named
  have hlocks := B.notSynchronized
  have hS : va_S (fl_A ad 88) s.heap s.heap [] := va_S.rf
  have hl := lv_entry ([.ref (ad 15), .int x1, .int x2]) (n := 3) (Nat.le_of_ble_eq_true rfl)
  rw [lg_entry_eq]
  generalize (lg_sl ([.ref (ad 15), .int x1, .int x2]) ++ List.replicate (3 - (lg_sl ([.ref (ad 15), .int x1, .int x2])).length) Slot.unset).toArray = ls at hl ⊢
  have hl : lv_has ls 3 [(0, .ref (ad 15)), (1, .int x1), (2, .int x2)] := hl
  have hG := g_CT_storedAt.eq_1 M x1 x2
  refine lv_iload_n hx hb d_CT_storedAt_0 rfl (lv_at hl 2 rfl) ?_
  refine lv_iconst (v := -1) hx hb d_CT_storedAt_1 (by decide) ?_
  refine lv_icmp_ne (tgt := 12) hx hb d_CT_storedAt_2 (by decide) (fun h_1 => ?_) (fun h_1 => ?_)
  ·
    have hG := hG.trans (if_neg h_1)
    refine lv_iload_n hx hb d_CT_storedAt_12 rfl (lv_at hl 2 rfl) ?_
    refine lv_aload_n hx hb d_CT_storedAt_13 rfl (lv_at hl 0 rfl) ?_
    refine gg_CT (k := 2) (v := .ref (ad 18)) hx hb hts hown hK hP  (hts _ (List.mem_cons_of_mem _ tw_271)) (by decide) rfl rfl d_CT_storedAt_14 ?_
    refine lv_iload_n hx hb d_CT_storedAt_17 rfl (lv_at hl 1 rfl) ?_
    refine ag_SLEN (v := .int (M.1 18 x1.toNatClampNeg)) hx hb hK hP  (by first | assumption | exact below_in4 (by assumption)) rfl d_CT_storedAt_18 ?_
    refine fl_calli (va_runSN (As := [.int x2, .int (M.1 18 x1.toNatClampNeg)]) (rest := []) ⟨hx, hb, hml, hown, hts⟩ (c_FL_isBelow l hi M x2 (M.1 18 x1.toNatClampNeg)) (kn_FL_isBelow hts (hN.m 11 rfl) ⟨Nat.le_of_ble_eq_true rfl, Nat.le_of_ble_eq_true rfl⟩) (fl_preS hK hSt hN hS hP) rfl rfl hl.1 rfl (lv_room (Nat.le_of_ble_eq_true rfl)) d_CT_storedAt_19 ⟨Nat.zero_le _, Nat.zero_le _⟩) hS (fun H locs hP hS => ?_)
    refine lv_if_eq (tgt := 36) hx hb d_CT_storedAt_22 (by decide) (fun h_2 => ?_) (fun h_2 => ?_)
    ·
      have hG := hG.trans (if_pos h_2)
      refine lv_iconst (v := 0) hx hb d_CT_storedAt_36 (by decide) ?_
      exact fl_iret hx hb hr hlocks hP hS hG.symm rfl d_CT_storedAt_37
    ·
      have hG := hG.trans (if_neg h_2)
      refine lv_aload_n hx hb d_CT_storedAt_25 rfl (lv_at hl 0 rfl) ?_
      refine gg_CT (k := 3) (v := .ref (ad 19)) hx hb hts hown hK hP  (hts _ (List.mem_cons_of_mem _ tw_272)) (by decide) rfl rfl d_CT_storedAt_26 ?_
      refine lv_iload_n hx hb d_CT_storedAt_29 rfl (lv_at hl 1 rfl) ?_
      have hs_3 : vp_in x1 4 := by first | assumption | exact below_in4 (by assumption)
      refine ar_SWORDS hx hb hK hP hs_3 d_CT_storedAt_30 ?_
      refine lv_iload_n hx hb d_CT_storedAt_31 rfl (lv_at hl 2 rfl) ?_
      refine ag_SROW (v := .int (M.1 (20 + x1.toNatClampNeg) x2.toNatClampNeg)) hx hb hK hP (is_SROWof hs_3) (sl_in (hsl _ (vp_lt hv1)) (by assumption)) rfl d_CT_storedAt_32 ?_
      refine lv_goto (tgt := 37) hx hb d_CT_storedAt_33 (by decide) ?_
      exact fl_iret hx hb hr hlocks hP hS hG.symm rfl d_CT_storedAt_37
  ·
    have hG := hG.trans (if_pos h_1)
    refine lv_aload_n hx hb d_CT_storedAt_5 rfl (lv_at hl 0 rfl) ?_
    refine gg_CT (k := 2) (v := .ref (ad 18)) hx hb hts hown hK hP  (hts _ (List.mem_cons_of_mem _ tw_271)) (by decide) rfl rfl d_CT_storedAt_6 ?_
    refine lv_iload_n hx hb d_CT_storedAt_9 rfl (lv_at hl 1 rfl) ?_
    refine ag_SLEN (v := .int (M.1 18 x1.toNatClampNeg)) hx hb hK hP  (by first | assumption | exact below_in4 (by assumption)) rfl d_CT_storedAt_10 ?_
    exact fl_iret hx hb hr hlocks hP hS hG.symm rfl d_CT_storedAt_11
theorem hd_CT_storedAt : y_CT_storedAt.cls ≠ "java/lang/invoke/MethodHandle" ∧ y_CT_storedAt.cls ≠ "java/lang/invoke/VarHandle" ∧ (parseMethodDescriptor y_CT_storedAt.desc).map (fun d => d.parameters.length) = some 2 := by decide +kernel
theorem kv_CT_storedAt {R : Room} {s : State} {args : Array Value} {c0 : Cond} {own : String} {index : Nat} (hts : ∀ w ∈ c0 :: gw, w.before args s = true) (hl : (Cond.methodLink own index y_CT_storedAt).before args s = true) (hR : 1 + 1 ≤ R.frames ∧ 8 + (3 + 11) + 21 ≤ R.locals) : CallW R s args own "FarLink$Craft" index y_CT_storedAt b_CT_storedAt 3 (some .int) w_CT_storedAt ({ frames := 1, cells := 0, slots := 0, locals := 21 } : Room) 0 0 2 := ⟨callB_of 2 hts (gw_in tw_718) rfl rfl rfl (hts _ (List.mem_cons_of_mem _ tw_7)) hl hd_CT_storedAt hR, hts _ (List.mem_cons_of_mem _ tw_716), hts _ (List.mem_cons_of_mem _ tw_717)⟩
