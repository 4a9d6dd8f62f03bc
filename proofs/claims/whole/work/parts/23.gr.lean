/-! contracts: 23.gr -/
def g_GR_has (M : fl_M) (x1 : Int32) : Int32 :=
  (g_FL_isBelow x1 (M.1 10 2))
set_option maxHeartbeats 4000000 in
set_option maxRecDepth 100000 in
theorem c_GR_has (l : Launch) {D : va_G} {ad : Nat → Nat} {cA : Nat → ClassId} {st : Nat → Nat} (hi : fl_inj ad 88) (M : fl_M) (x1 : Int32) : Met l y_GR_has w_GR_has ({ frames := 1, cells := 0, slots := 0, locals := 21 } : Room) (va_Pc [.ref (ad 10), .int x1] (fl_B D cls (xt cA) (xSL st) xFN xMN ad (xc ad cA) 88 M)) (va_Qi (fun r M' => r = (g_GR_has M x1) ∧ M' = M) (fl_E D cls ad (xc ad cA) 88) (fl_A ad 88)) 0 0 (fl_A ad 88) := by
  refine Met.ofW (cc := b_GR_has) (maxL := 2) (ret := (some .boolean)) (by decide) rfl ?_
  intro p e s m args below meth c s₁ B hml hv
  obtain ⟨rfl, hP, hK, hSt, hN⟩ := hv
  have hx := B.exec
  have hb := B.bytes
  have hr := B.returns
  have hts := atoms_spec (ws := w_GR_has) B.pre
  have hown : s.vm.findClass "FarLink$Ground" = some m.cls := findClass_of_methodNamed B.named
  have hlocks := B.notSynchronized
  have hS : va_S (fl_A ad 88) s.heap s.heap [] := va_S.rf
  have hl := lv_entry ([.ref (ad 10), .int x1]) (n := 2) (Nat.le_of_ble_eq_true rfl)
  rw [lg_entry_eq]
  generalize (lg_sl ([.ref (ad 10), .int x1]) ++ List.replicate (2 - (lg_sl ([.ref (ad 10), .int x1])).length) Slot.unset).toArray = ls at hl ⊢
  have hl : lv_has ls 2 [(0, .ref (ad 10)), (1, .int x1)] := hl
  have hG := g_GR_has.eq_1 M x1
  refine lv_iload_n hx hb d_GR_has_0 rfl (lv_at hl 1 rfl) ?_
  refine lv_aload_n hx hb d_GR_has_1 rfl (lv_at hl 0 rfl) ?_
  refine gg_GR (k := 2) (v := .int (M.1 10 2)) hx hb hts hown hK hP  (hts _ (List.mem_cons_of_mem _ tw_177)) (by decide) rfl rfl d_GR_has_2 ?_
  refine fl_calli (va_runSN (As := [.int x1, .int (M.1 10 2)]) (rest := []) ⟨hx, hb, hml, hown, hts⟩ (c_FL_isBelow l hi M x1 (M.1 10 2)) (kn_FL_isBelow hts (hN.m 2 rfl) ⟨Nat.le_of_ble_eq_true rfl, Nat.le_of_ble_eq_true rfl⟩) (fl_preS hK hSt hN hS hP) rfl rfl hl.1 rfl (lv_room (Nat.le_of_ble_eq_true rfl)) d_GR_has_5 ⟨Nat.zero_le _, Nat.zero_le _⟩) hS (fun H locs hP hS => ?_)
  exact fl_zret hx hb hr hlocks hP hS (z_FL_isBelow ..) hG.symm rfl d_GR_has_8
theorem z_GR_has (M : fl_M) (x1 : Int32) : g_GR_has M x1 &&& 1 = g_GR_has M x1 := by
  unfold g_GR_has
  repeat (first | split | with_reducible exact z_FL_isBelow .. | (show (0 : Int32) &&& 1 = 0; rfl) | (show (1 : Int32) &&& 1 = 1; rfl) | rfl)
theorem hd_GR_has : y_GR_has.cls ≠ "java/lang/invoke/MethodHandle" ∧ y_GR_has.cls ≠ "java/lang/invoke/VarHandle" ∧ (parseMethodDescriptor y_GR_has.desc).map (fun d => d.parameters.length) = some 1 := by decide +kernel
theorem kv_GR_has {R : Room} {s : State} {args : Array Value} {c0 : Cond} {own : String} {index : Nat} (hts : ∀ w ∈ c0 :: gw, w.before args s = true) (hl : (Cond.methodLink own index y_GR_has).before args s = true) (hR : 1 + 1 ≤ R.frames ∧ 8 + (2 + 11) + 21 ≤ R.locals) : CallW R s args own "FarLink$Ground" index y_GR_has b_GR_has 2 (some .boolean) w_GR_has ({ frames := 1, cells := 0, slots := 0, locals := 21 } : Room) 0 0 1 := ⟨callB_of 1 hts (gw_in tw_334) rfl rfl rfl (hts _ (List.mem_cons_of_mem _ tw_4)) hl hd_GR_has hR, hts _ (List.mem_cons_of_mem _ tw_332), hts _ (List.mem_cons_of_mem _ tw_333)⟩
def g_GR_begin (qa : Nat) (M : fl_M) (x2 : Int32) (x3 : Int32) (x4 : Int32) : Int32 × fl_M :=
  if (M.1 10 2) < 16 then ((((fl_i (pTR M (24 + 2 * (M.1 10 2).toNatClampNeg) ((g_TR_begin (M.1 qa) (M.1 (24 + 2 * (M.1 10 2).toNatClampNeg)) (M.1 ((24 + 2 * (M.1 10 2).toNatClampNeg) + 1)) x2 x3 x4).1) ((g_TR_begin (M.1 qa) (M.1 (24 + 2 * (M.1 10 2).toNatClampNeg)) (M.1 ((24 + 2 * (M.1 10 2).toNatClampNeg) + 1)) x2 x3 x4).2)) 10 2 (((pTR M (24 + 2 * (M.1 10 2).toNatClampNeg) ((g_TR_begin (M.1 qa) (M.1 (24 + 2 * (M.1 10 2).toNatClampNeg)) (M.1 ((24 + 2 * (M.1 10 2).toNatClampNeg) + 1)) x2 x3 x4).1) ((g_TR_begin (M.1 qa) (M.1 (24 + 2 * (M.1 10 2).toNatClampNeg)) (M.1 ((24 + 2 * (M.1 10 2).toNatClampNeg) + 1)) x2 x3 x4).2)).1 10 2) + 1)).1 10 2) - 1, (fl_i (pTR M (24 + 2 * (M.1 10 2).toNatClampNeg) ((g_TR_begin (M.1 qa) (M.1 (24 + 2 * (M.1 10 2).toNatClampNeg)) (M.1 ((24 + 2 * (M.1 10 2).toNatClampNeg) + 1)) x2 x3 x4).1) ((g_TR_begin (M.1 qa) (M.1 (24 + 2 * (M.1 10 2).toNatClampNeg)) (M.1 ((24 + 2 * (M.1 10 2).toNatClampNeg) + 1)) x2 x3 x4).2)) 10 2 (((pTR M (24 + 2 * (M.1 10 2).toNatClampNeg) ((g_TR_begin (M.1 qa) (M.1 (24 + 2 * (M.1 10 2).toNatClampNeg)) (M.1 ((24 + 2 * (M.1 10 2).toNatClampNeg) + 1)) x2 x3 x4).1) ((g_TR_begin (M.1 qa) (M.1 (24 + 2 * (M.1 10 2).toNatClampNeg)) (M.1 ((24 + 2 * (M.1 10 2).toNatClampNeg) + 1)) x2 x3 x4).2)).1 10 2) + 1)))) else (((-1), M))
set_option maxHeartbeats 4000000 in
set_option maxRecDepth 100000 in
theorem c_GR_begin (l : Launch) {D : va_G} {ad : Nat → Nat} {cA : Nat → ClassId} {st : Nat → Nat} (hi : fl_inj ad 88) (qa : Nat) (M : fl_M) (x2 : Int32) (x3 : Int32) (x4 : Int32) (ha : is_FROW qa) (hbg : nn (M.1 10 2)) (hz4 : x4 &&& 1 = x4) : Met l y_GR_begin w_GR_begin ({ frames := 2, cells := 0, slots := 0, locals := 84 } : Room) (va_Pc [.ref (ad 10), .ref (ad qa), .int x2, .int x3, .int x4] (fl_B D cls (xt cA) (xSL st) xFN xMN ad (xc ad cA) 88 M)) (va_Qi (fun r M' => r = (g_GR_begin qa M x2 x3 x4).1 ∧ M' = ((g_GR_begin qa M x2 x3 x4).2)) (fl_E D cls ad (xc ad cA) 88) (fl_A ad 88)) 0 0 (fl_A ad 88) := by
  refine Met.ofW (cc := b_GR_begin) (maxL := 5) (ret := (some .int)) (by decide) rfl ?_
  intro p e s m args below meth c s₁ B hml hv
  obtain ⟨rfl, hP, hK, hSt, hN⟩ := hv
  have hx := B.exec
  have hb := B.bytes
  have hr := B.returns
  have hts := atoms_spec (ws := w_GR_begin) B.pre
  have hown : s.vm.findClass "FarLink$Ground" = some m.cls := findClass_of_methodNamed B.named
  have hlocks := B.notSynchronized
  have hS : va_S (fl_A ad 88) s.heap s.heap [] := va_S.rf
  have hl := lv_entry ([.ref (ad 10), .ref (ad qa), .int x2, .int x3, .int x4]) (n := 5) (Nat.le_of_ble_eq_true rfl)
  rw [lg_entry_eq]
  generalize (lg_sl ([.ref (ad 10), .ref (ad qa), .int x2, .int x3, .int x4]) ++ List.replicate (5 - (lg_sl ([.ref (ad 10), .ref (ad qa), .int x2, .int x3, .int x4])).length) Slot.unset).toArray = ls at hl ⊢
  have hl : lv_has ls 5 [(0, .ref (ad 10)), (1, .ref (ad qa)), (2, .int x2), (3, .int x3), (4, .int x4)] := hl
  have hG := g_GR_begin.eq_1 qa M x2 x3 x4
  refine lv_aload_n hx hb d_GR_begin_0 rfl (lv_at hl 0 rfl) ?_
  refine gg_GR (k := 2) (v := .int (M.1 10 2)) hx hb hts hown hK hP  (hts _ (List.mem_cons_of_mem _ tw_177)) (by decide) rfl rfl d_GR_begin_1 ?_
  refine lv_bipush (v := 16) hx hb d_GR_begin_4 (by decide) ?_
  refine lv_icmp_lt (tgt := 11) hx hb d_GR_begin_6 (by decide) (fun h_1 => ?_) (fun h_1 => ?_)
  ·
    have hG := hG.trans (if_pos h_1)
    refine lv_aload_n hx hb d_GR_begin_11 rfl (lv_at hl 0 rfl) ?_
    refine gg_GR (k := 1) (v := .ref (ad 14)) hx hb hts hown hK hP  (hts _ (List.mem_cons_of_mem _ tw_175)) (by decide) rfl rfl d_GR_begin_12 ?_
    refine lv_aload_n hx hb d_GR_begin_15 rfl (lv_at hl 0 rfl) ?_
    refine gg_GR (k := 2) (v := .int (M.1 10 2)) hx hb hts hown hK hP  (hts _ (List.mem_cons_of_mem _ tw_177)) (by decide) rfl rfl d_GR_begin_16 ?_
    have hs_2 : vp_in (M.1 10 2) 16 := bg_in hbg (by assumption)
    refine ar_TRS hx hb hK hP hs_2 d_GR_begin_19 ?_
    refine lv_aload_n hx hb d_GR_begin_20 rfl (lv_at hl 1 rfl) ?_
    refine lv_iload_n hx hb d_GR_begin_21 rfl (lv_at hl 2 rfl) ?_
    refine lv_iload_n hx hb d_GR_begin_22 rfl (lv_at hl 3 rfl) ?_
    refine lv_iload hx hb d_GR_begin_23 (lv_at hl 4 rfl) ?_
    have hP : va_P D cls (fl_w ad (xc ad cA) 88 (pTR M (24 + 2 * (M.1 10 2).toNatClampNeg) (M.1 (24 + 2 * (M.1 10 2).toNatClampNeg)) (M.1 ((24 + 2 * (M.1 10 2).toNatClampNeg) + 1)))) s.heap := by rw [id_TR]; exact hP
    refine fl_callv (va_runV (As := [.ref (ad qa), .int x2, .int x3, .int x4]) (rest := []) ⟨hx, hb, hml, hown, hts⟩ (c_TR_begin l hi (M.1 qa) (is_TRof hs_2) M (M.1 (24 + 2 * (M.1 10 2).toNatClampNeg)) (M.1 ((24 + 2 * (M.1 10 2).toNatClampNeg) + 1)) x2 x3 x4 ⟨ha, rfl⟩ (by assumption)) (kv_TR_begin hts (hts _ (List.mem_cons_of_mem _ tw_316)) ⟨Nat.le_of_ble_eq_true rfl, Nat.le_of_ble_eq_true rfl⟩) (fl_preV hK hSt hN hS hP (lt_TR (is_TRof hs_2)) (kc_TR (is_TRof hs_2)) rfl) rfl rfl hl.1 rfl (lv_room (Nat.le_of_ble_eq_true rfl)) d_GR_begin_25 ⟨Nat.zero_le _, Nat.zero_le _⟩) hS (fun H locs hP hS => ?_)
    refine lv_aload_n hx hb d_GR_begin_28 rfl (lv_at hl 0 rfl) ?_
    refine lv_dup hx hb d_GR_begin_29 rfl ?_
    refine gg_GR (k := 2) (v := .int ((pTR M (24 + 2 * (M.1 10 2).toNatClampNeg) ((g_TR_begin (M.1 qa) (M.1 (24 + 2 * (M.1 10 2).toNatClampNeg)) (M.1 ((24 + 2 * (M.1 10 2).toNatClampNeg) + 1)) x2 x3 x4).1) ((g_TR_begin (M.1 qa) (M.1 (24 + 2 * (M.1 10 2).toNatClampNeg)) (M.1 ((24 + 2 * (M.1 10 2).toNatClampNeg) + 1)) x2 x3 x4).2)).1 10 2)) hx hb hts hown hK hP  (hts _ (List.mem_cons_of_mem _ tw_177)) (by decide) rfl rfl d_GR_begin_30 ?_
    refine lv_iconst (v := 1) hx hb d_GR_begin_33 (by decide) ?_
    refine lv_iadd hx hb d_GR_begin_34 ?_
    refine pg_GR (k := 2) hx hb hts hown hK hi hP hS  (hts _ (List.mem_cons_of_mem _ tw_177)) (by decide) rfl rfl rfl rfl (Nat.le_of_ble_eq_true rfl) rfl d_GR_begin_35 (fun H locs hP hS => ?_)
    refine lv_aload_n hx hb d_GR_begin_38 rfl (lv_at hl 0 rfl) ?_
    refine gg_GR (k := 2) (v := .int ((fl_i (pTR M (24 + 2 * (M.1 10 2).toNatClampNeg) ((g_TR_begin (M.1 qa) (M.1 (24 + 2 * (M.1 10 2).toNatClampNeg)) (M.1 ((24 + 2 * (M.1 10 2).toNatClampNeg) + 1)) x2 x3 x4).1) ((g_TR_begin (M.1 qa) (M.1 (24 + 2 * (M.1 10 2).toNatClampNeg)) (M.1 ((24 + 2 * (M.1 10 2).toNatClampNeg) + 1)) x2 x3 x4).2)) 10 2 (((pTR M (24 + 2 * (M.1 10 2).toNatClampNeg) ((g_TR_begin (M.1 qa) (M.1 (24 + 2 * (M.1 10 2).toNatClampNeg)) (M.1 ((24 + 2 * (M.1 10 2).toNatClampNeg) + 1)) x2 x3 x4).1) ((g_TR_begin (M.1 qa) (M.1 (24 + 2 * (M.1 10 2).toNatClampNeg)) (M.1 ((24 + 2 * (M.1 10 2).toNatClampNeg) + 1)) x2 x3 x4).2)).1 10 2) + 1)).1 10 2)) hx hb hts hown hK hP  (hts _ (List.mem_cons_of_mem _ tw_177)) (by decide) rfl rfl d_GR_begin_39 ?_
    refine lv_iconst (v := 1) hx hb d_GR_begin_42 (by decide) ?_
    refine lv_isub hx hb d_GR_begin_43 ?_
    exact fl_iret hx hb hr hlocks hP hS (congrArg Prod.fst hG).symm (by rw [hG]) d_GR_begin_44
  ·
    have hG := hG.trans (if_neg h_1)
    refine lv_iconst (v := -1) hx hb d_GR_begin_9 (by decide) ?_
    exact fl_iret hx hb hr hlocks hP hS (congrArg Prod.fst hG).symm (by rw [hG]) d_GR_begin_10
theorem hd_GR_begin : y_GR_begin.cls ≠ "java/lang/invoke/MethodHandle" ∧ y_GR_begin.cls ≠ "java/lang/invoke/VarHandle" ∧ (parseMethodDescriptor y_GR_begin.desc).map (fun d => d.parameters.length) = some 4 := by decide +kernel
theorem kv_GR_begin {R : Room} {s : State} {args : Array Value} {c0 : Cond} {own : String} {index : Nat} (hts : ∀ w ∈ c0 :: gw, w.before args s = true) (hl : (Cond.methodLink own index y_GR_begin).before args s = true) (hR : 2 + 1 ≤ R.frames ∧ 8 + (5 + 11) + 84 ≤ R.locals) : CallW R s args own "FarLink$Ground" index y_GR_begin b_GR_begin 5 (some .int) w_GR_begin ({ frames := 2, cells := 0, slots := 0, locals := 84 } : Room) 0 0 4 := ⟨callB_of 4 hts (gw_in tw_315) rfl rfl rfl (hts _ (List.mem_cons_of_mem _ tw_4)) hl hd_GR_begin hR, hts _ (List.mem_cons_of_mem _ tw_313), hts _ (List.mem_cons_of_mem _ tw_314)⟩
def g_GR_hear (M : fl_M) (x1 : Int64) : fl_M :=
  if (lg_cmp x1 (-1)) = 0 then (M) else (if (lg_cmp (x1 &&& 16) 0) = 0 then (if (lg_cmp (x1 &&& 32) 0) = 0 then (if (g_GR_has (pGF M ((g_GF_hear (M.1 11) (M.1 13) (M.2 12) (g_FL_fourBitsAt x1 0) 0 0).1) ((g_GF_hear (M.1 11) (M.1 13) (M.2 12) (g_FL_fourBitsAt x1 0) 0 0).2.1) ((g_GF_hear (M.1 11) (M.1 13) (M.2 12) (g_FL_fourBitsAt x1 0) 0 0).2.2)) (g_FL_fourBitsAt x1 12)) = 0 then ((pGF M ((g_GF_hear (M.1 11) (M.1 13) (M.2 12) (g_FL_fourBitsAt x1 0) 0 0).1) ((g_GF_hear (M.1 11) (M.1 13) (M.2 12) (g_FL_fourBitsAt x1 0) 0 0).2.1) ((g_GF_hear (M.1 11) (M.1 13) (M.2 12) (g_FL_fourBitsAt x1 0) 0 0).2.2))) else ((pTR (pGF M ((g_GF_hear (M.1 11) (M.1 13) (M.2 12) (g_FL_fourBitsAt x1 0) 0 0).1) ((g_GF_hear (M.1 11) (M.1 13) (M.2 12) (g_FL_fourBitsAt x1 0) 0 0).2.1) ((g_GF_hear (M.1 11) (M.1 13) (M.2 12) (g_FL_fourBitsAt x1 0) 0 0).2.2)) (24 + 2 * (g_FL_fourBitsAt x1 12).toNatClampNeg) ((g_TR_hear ((pGF M ((g_GF_hear (M.1 11) (M.1 13) (M.2 12) (g_FL_fourBitsAt x1 0) 0 0).1) ((g_GF_hear (M.1 11) (M.1 13) (M.2 12) (g_FL_fourBitsAt x1 0) 0 0).2.1) ((g_GF_hear (M.1 11) (M.1 13) (M.2 12) (g_FL_fourBitsAt x1 0) 0 0).2.2)).1 (24 + 2 * (g_FL_fourBitsAt x1 12).toNatClampNeg)) ((pGF M ((g_GF_hear (M.1 11) (M.1 13) (M.2 12) (g_FL_fourBitsAt x1 0) 0 0).1) ((g_GF_hear (M.1 11) (M.1 13) (M.2 12) (g_FL_fourBitsAt x1 0) 0 0).2.1) ((g_GF_hear (M.1 11) (M.1 13) (M.2 12) (g_FL_fourBitsAt x1 0) 0 0).2.2)).1 ((24 + 2 * (g_FL_fourBitsAt x1 12).toNatClampNeg) + 1)) (g_FL_fourBitsAt x1 8) (((j_lushr x1 16).toInt32) &&& 16777215)).1) ((g_TR_hear ((pGF M ((g_GF_hear (M.1 11) (M.1 13) (M.2 12) (g_FL_fourBitsAt x1 0) 0 0).1) ((g_GF_hear (M.1 11) (M.1 13) (M.2 12) (g_FL_fourBitsAt x1 0) 0 0).2.1) ((g_GF_hear (M.1 11) (M.1 13) (M.2 12) (g_FL_fourBitsAt x1 0) 0 0).2.2)).1 (24 + 2 * (g_FL_fourBitsAt x1 12).toNatClampNeg)) ((pGF M ((g_GF_hear (M.1 11) (M.1 13) (M.2 12) (g_FL_fourBitsAt x1 0) 0 0).1) ((g_GF_hear (M.1 11) (M.1 13) (M.2 12) (g_FL_fourBitsAt x1 0) 0 0).2.1) ((g_GF_hear (M.1 11) (M.1 13) (M.2 12) (g_FL_fourBitsAt x1 0) 0 0).2.2)).1 ((24 + 2 * (g_FL_fourBitsAt x1 12).toNatClampNeg) + 1)) (g_FL_fourBitsAt x1 8) (((j_lushr x1 16).toInt32) &&& 16777215)).2)))) else (if (g_GR_has (pGF M ((g_GF_hear (M.1 11) (M.1 13) (M.2 12) (g_FL_fourBitsAt x1 0) 0 1).1) ((g_GF_hear (M.1 11) (M.1 13) (M.2 12) (g_FL_fourBitsAt x1 0) 0 1).2.1) ((g_GF_hear (M.1 11) (M.1 13) (M.2 12) (g_FL_fourBitsAt x1 0) 0 1).2.2)) (g_FL_fourBitsAt x1 12)) = 0 then ((pGF M ((g_GF_hear (M.1 11) (M.1 13) (M.2 12) (g_FL_fourBitsAt x1 0) 0 1).1) ((g_GF_hear (M.1 11) (M.1 13) (M.2 12) (g_FL_fourBitsAt x1 0) 0 1).2.1) ((g_GF_hear (M.1 11) (M.1 13) (M.2 12) (g_FL_fourBitsAt x1 0) 0 1).2.2))) else ((pTR (pGF M ((g_GF_hear (M.1 11) (M.1 13) (M.2 12) (g_FL_fourBitsAt x1 0) 0 1).1) ((g_GF_hear (M.1 11) (M.1 13) (M.2 12) (g_FL_fourBitsAt x1 0) 0 1).2.1) ((g_GF_hear (M.1 11) (M.1 13) (M.2 12) (g_FL_fourBitsAt x1 0) 0 1).2.2)) (24 + 2 * (g_FL_fourBitsAt x1 12).toNatClampNeg) ((g_TR_hear ((pGF M ((g_GF_hear (M.1 11) (M.1 13) (M.2 12) (g_FL_fourBitsAt x1 0) 0 1).1) ((g_GF_hear (M.1 11) (M.1 13) (M.2 12) (g_FL_fourBitsAt x1 0) 0 1).2.1) ((g_GF_hear (M.1 11) (M.1 13) (M.2 12) (g_FL_fourBitsAt x1 0) 0 1).2.2)).1 (24 + 2 * (g_FL_fourBitsAt x1 12).toNatClampNeg)) ((pGF M ((g_GF_hear (M.1 11) (M.1 13) (M.2 12) (g_FL_fourBitsAt x1 0) 0 1).1) ((g_GF_hear (M.1 11) (M.1 13) (M.2 12) (g_FL_fourBitsAt x1 0) 0 1).2.1) ((g_GF_hear (M.1 11) (M.1 13) (M.2 12) (g_FL_fourBitsAt x1 0) 0 1).2.2)).1 ((24 + 2 * (g_FL_fourBitsAt x1 12).toNatClampNeg) + 1)) (g_FL_fourBitsAt x1 8) (((j_lushr x1 16).toInt32) &&& 16777215)).1) ((g_TR_hear ((pGF M ((g_GF_hear (M.1 11) (M.1 13) (M.2 12) (g_FL_fourBitsAt x1 0) 0 1).1) ((g_GF_hear (M.1 11) (M.1 13) (M.2 12) (g_FL_fourBitsAt x1 0) 0 1).2.1) ((g_GF_hear (M.1 11) (M.1 13) (M.2 12) (g_FL_fourBitsAt x1 0) 0 1).2.2)).1 (24 + 2 * (g_FL_fourBitsAt x1 12).toNatClampNeg)) ((pGF M ((g_GF_hear (M.1 11) (M.1 13) (M.2 12) (g_FL_fourBitsAt x1 0) 0 1).1) ((g_GF_hear (M.1 11) (M.1 13) (M.2 12) (g_FL_fourBitsAt x1 0) 0 1).2.1) ((g_GF_hear (M.1 11) (M.1 13) (M.2 12) (g_FL_fourBitsAt x1 0) 0 1).2.2)).1 ((24 + 2 * (g_FL_fourBitsAt x1 12).toNatClampNeg) + 1)) (g_FL_fourBitsAt x1 8) (((j_lushr x1 16).toInt32) &&& 16777215)).2))))) else (if (lg_cmp (x1 &&& 32) 0) = 0 then (if (g_GR_has (pGF M ((g_GF_hear (M.1 11) (M.1 13) (M.2 12) (g_FL_fourBitsAt x1 0) 1 0).1) ((g_GF_hear (M.1 11) (M.1 13) (M.2 12) (g_FL_fourBitsAt x1 0) 1 0).2.1) ((g_GF_hear (M.1 11) (M.1 13) (M.2 12) (g_FL_fourBitsAt x1 0) 1 0).2.2)) (g_FL_fourBitsAt x1 12)) = 0 then ((pGF M ((g_GF_hear (M.1 11) (M.1 13) (M.2 12) (g_FL_fourBitsAt x1 0) 1 0).1) ((g_GF_hear (M.1 11) (M.1 13) (M.2 12) (g_FL_fourBitsAt x1 0) 1 0).2.1) ((g_GF_hear (M.1 11) (M.1 13) (M.2 12) (g_FL_fourBitsAt x1 0) 1 0).2.2))) else ((pTR (pGF M ((g_GF_hear (M.1 11) (M.1 13) (M.2 12) (g_FL_fourBitsAt x1 0) 1 0).1) ((g_GF_hear (M.1 11) (M.1 13) (M.2 12) (g_FL_fourBitsAt x1 0) 1 0).2.1) ((g_GF_hear (M.1 11) (M.1 13) (M.2 12) (g_FL_fourBitsAt x1 0) 1 0).2.2)) (24 + 2 * (g_FL_fourBitsAt x1 12).toNatClampNeg) ((g_TR_hear ((pGF M ((g_GF_hear (M.1 11) (M.1 13) (M.2 12) (g_FL_fourBitsAt x1 0) 1 0).1) ((g_GF_hear (M.1 11) (M.1 13) (M.2 12) (g_FL_fourBitsAt x1 0) 1 0).2.1) ((g_GF_hear (M.1 11) (M.1 13) (M.2 12) (g_FL_fourBitsAt x1 0) 1 0).2.2)).1 (24 + 2 * (g_FL_fourBitsAt x1 12).toNatClampNeg)) ((pGF M ((g_GF_hear (M.1 11) (M.1 13) (M.2 12) (g_FL_fourBitsAt x1 0) 1 0).1) ((g_GF_hear (M.1 11) (M.1 13) (M.2 12) (g_FL_fourBitsAt x1 0) 1 0).2.1) ((g_GF_hear (M.1 11) (M.1 13) (M.2 12) (g_FL_fourBitsAt x1 0) 1 0).2.2)).1 ((24 + 2 * (g_FL_fourBitsAt x1 12).toNatClampNeg) + 1)) (g_FL_fourBitsAt x1 8) (((j_lushr x1 16).toInt32) &&& 16777215)).1) ((g_TR_hear ((pGF M ((g_GF_hear (M.1 11) (M.1 13) (M.2 12) (g_FL_fourBitsAt x1 0) 1 0).1) ((g_GF_hear (M.1 11) (M.1 13) (M.2 12) (g_FL_fourBitsAt x1 0) 1 0).2.1) ((g_GF_hear (M.1 11) (M.1 13) (M.2 12) (g_FL_fourBitsAt x1 0) 1 0).2.2)).1 (24 + 2 * (g_FL_fourBitsAt x1 12).toNatClampNeg)) ((pGF M ((g_GF_hear (M.1 11) (M.1 13) (M.2 12) (g_FL_fourBitsAt x1 0) 1 0).1) ((g_GF_hear (M.1 11) (M.1 13) (M.2 12) (g_FL_fourBitsAt x1 0) 1 0).2.1) ((g_GF_hear (M.1 11) (M.1 13) (M.2 12) (g_FL_fourBitsAt x1 0) 1 0).2.2)).1 ((24 + 2 * (g_FL_fourBitsAt x1 12).toNatClampNeg) + 1)) (g_FL_fourBitsAt x1 8) (((j_lushr x1 16).toInt32) &&& 16777215)).2)))) else (if (g_GR_has (pGF M ((g_GF_hear (M.1 11) (M.1 13) (M.2 12) (g_FL_fourBitsAt x1 0) 1 1).1) ((g_GF_hear (M.1 11) (M.1 13) (M.2 12) (g_FL_fourBitsAt x1 0) 1 1).2.1) ((g_GF_hear (M.1 11) (M.1 13) (M.2 12) (g_FL_fourBitsAt x1 0) 1 1).2.2)) (g_FL_fourBitsAt x1 12)) = 0 then ((pGF M ((g_GF_hear (M.1 11) (M.1 13) (M.2 12) (g_FL_fourBitsAt x1 0) 1 1).1) ((g_GF_hear (M.1 11) (M.1 13) (M.2 12) (g_FL_fourBitsAt x1 0) 1 1).2.1) ((g_GF_hear (M.1 11) (M.1 13) (M.2 12) (g_FL_fourBitsAt x1 0) 1 1).2.2))) else ((pTR (pGF M ((g_GF_hear (M.1 11) (M.1 13) (M.2 12) (g_FL_fourBitsAt x1 0) 1 1).1) ((g_GF_hear (M.1 11) (M.1 13) (M.2 12) (g_FL_fourBitsAt x1 0) 1 1).2.1) ((g_GF_hear (M.1 11) (M.1 13) (M.2 12) (g_FL_fourBitsAt x1 0) 1 1).2.2)) (24 + 2 * (g_FL_fourBitsAt x1 12).toNatClampNeg) ((g_TR_hear ((pGF M ((g_GF_hear (M.1 11) (M.1 13) (M.2 12) (g_FL_fourBitsAt x1 0) 1 1).1) ((g_GF_hear (M.1 11) (M.1 13) (M.2 12) (g_FL_fourBitsAt x1 0) 1 1).2.1) ((g_GF_hear (M.1 11) (M.1 13) (M.2 12) (g_FL_fourBitsAt x1 0) 1 1).2.2)).1 (24 + 2 * (g_FL_fourBitsAt x1 12).toNatClampNeg)) ((pGF M ((g_GF_hear (M.1 11) (M.1 13) (M.2 12) (g_FL_fourBitsAt x1 0) 1 1).1) ((g_GF_hear (M.1 11) (M.1 13) (M.2 12) (g_FL_fourBitsAt x1 0) 1 1).2.1) ((g_GF_hear (M.1 11) (M.1 13) (M.2 12) (g_FL_fourBitsAt x1 0) 1 1).2.2)).1 ((24 + 2 * (g_FL_fourBitsAt x1 12).toNatClampNeg) + 1)) (g_FL_fourBitsAt x1 8) (((j_lushr x1 16).toInt32) &&& 16777215)).1) ((g_TR_hear ((pGF M ((g_GF_hear (M.1 11) (M.1 13) (M.2 12) (g_FL_fourBitsAt x1 0) 1 1).1) ((g_GF_hear (M.1 11) (M.1 13) (M.2 12) (g_FL_fourBitsAt x1 0) 1 1).2.1) ((g_GF_hear (M.1 11) (M.1 13) (M.2 12) (g_FL_fourBitsAt x1 0) 1 1).2.2)).1 (24 + 2 * (g_FL_fourBitsAt x1 12).toNatClampNeg)) ((pGF M ((g_GF_hear (M.1 11) (M.1 13) (M.2 12) (g_FL_fourBitsAt x1 0) 1 1).1) ((g_GF_hear (M.1 11) (M.1 13) (M.2 12) (g_FL_fourBitsAt x1 0) 1 1).2.1) ((g_GF_hear (M.1 11) (M.1 13) (M.2 12) (g_FL_fourBitsAt x1 0) 1 1).2.2)).1 ((24 + 2 * (g_FL_fourBitsAt x1 12).toNatClampNeg) + 1)) (g_FL_fourBitsAt x1 8) (((j_lushr x1 16).toInt32) &&& 16777215)).2))))))
set_option maxHeartbeats 4000000 in
set_option maxRecDepth 100000 in
theorem c_GR_hear (l : Launch) {D : va_G} {ad : Nat → Nat} {cA : Nat → ClassId} {st : Nat → Nat} (hi : fl_inj ad 88) (M : fl_M) (x1 : Int64) : Met l y_GR_hear w_GR_hear ({ frames := 4, cells := 0, slots := 0, locals := 89 } : Room) (va_Pc [.ref (ad 10), .long x1] (fl_B D cls (xt cA) (xSL st) xFN xMN ad (xc ad cA) 88 M)) (va_Qv (fun M' => M' = (g_GR_hear M x1)) (fl_E D cls ad (xc ad cA) 88) (fl_A ad 88)) 0 0 (fl_A ad 88) := by
  refine Met.ofW (cc := b_GR_hear) (maxL := 4) (ret := none) (by decide) rfl ?_
  intro p e s m args below meth c s₁ B hml hv
  obtain ⟨rfl, hP, hK, hSt, hN⟩ := hv
  have hx := B.exec
  have hb := B.bytes
  have hr := B.returns
  have hts := atoms_spec (ws := w_GR_hear) B.pre
  have hown : s.vm.findClass "FarLink$Ground" = some m.cls := findClass_of_methodNamed B.named
  have hlocks := B.notSynchronized
  have hS : va_S (fl_A ad 88) s.heap s.heap [] := va_S.rf
  have hl := lv_entry ([.ref (ad 10), .long x1]) (n := 4) (Nat.le_of_ble_eq_true rfl)
  rw [lg_entry_eq]
  generalize (lg_sl ([.ref (ad 10), .long x1]) ++ List.replicate (4 - (lg_sl ([.ref (ad 10), .long x1])).length) Slot.unset).toArray = ls at hl ⊢
  have hl : lv_has ls 4 [(0, .ref (ad 10)), (1, .long x1)] := hl
  have hG := g_GR_hear.eq_1 M x1
  refine lv_lload_n hx hb d_GR_hear_0 rfl (lv_at hl 1 rfl) ?_
  refine lv_ldc2 (v := -1) hx hb hown (hts _ (List.mem_cons_of_mem _ tw_572)) d_GR_hear_1 ?_
  refine W.lcmp hx hb d_GR_hear_4 ?_
  refine lv_if_ne (tgt := 9) hx hb d_GR_hear_5 (by decide) (fun h_1 => ?_) (fun h_1 => ?_)
  ·
    have hG := hG.trans (if_neg h_1)
    refine lv_aload_n hx hb d_GR_hear_9 rfl (lv_at hl 0 rfl) ?_
    refine gg_GR (k := 0) (v := .ref (ad 11)) hx hb hts hown hK hP  (hts _ (List.mem_cons_of_mem _ tw_173)) (by decide) rfl rfl d_GR_hear_10 ?_
    refine lv_lload_n hx hb d_GR_hear_13 rfl (lv_at hl 1 rfl) ?_
    refine lv_iconst (v := 0) hx hb d_GR_hear_14 (by decide) ?_
    refine fl_calli (va_runSN (As := [.long x1, .int 0]) (rest := [.ref (ad 11)]) ⟨hx, hb, hml, hown, hts⟩ (c_FL_fourBitsAt l hi M x1 0) (kn_FL_fourBitsAt hts (hN.m 9 rfl) ⟨Nat.le_of_ble_eq_true rfl, Nat.le_of_ble_eq_true rfl⟩) (fl_preS hK hSt hN hS hP) rfl rfl hl.1 rfl (lv_room (Nat.le_of_ble_eq_true rfl)) d_GR_hear_15 ⟨Nat.zero_le _, Nat.zero_le _⟩) hS (fun H locs hP hS => ?_)
    refine lv_lload_n hx hb d_GR_hear_18 rfl (lv_at hl 1 rfl) ?_
    refine lv_ldc2 (v := 16) hx hb hown (hts _ (List.mem_cons_of_mem _ tw_574)) d_GR_hear_19 ?_
    refine lv_land hx hb d_GR_hear_22 ?_
    refine lv_lconst (v := 0) hx hb d_GR_hear_23 (by decide) ?_
    refine W.lcmp hx hb d_GR_hear_24 ?_
    refine lv_if_eq (tgt := 32) hx hb d_GR_hear_25 (by decide) (fun h_2 => ?_) (fun h_2 => ?_)
    ·
      have hG := hG.trans (if_pos h_2)
      refine lv_iconst (v := 0) hx hb d_GR_hear_32 (by decide) ?_
      refine lv_lload_n hx hb d_GR_hear_33 rfl (lv_at hl 1 rfl) ?_
      refine lv_ldc2 (v := 32) hx hb hown (hts _ (List.mem_cons_of_mem _ tw_575)) d_GR_hear_34 ?_
      refine lv_land hx hb d_GR_hear_37 ?_
      refine lv_lconst (v := 0) hx hb d_GR_hear_38 (by decide) ?_
      refine W.lcmp hx hb d_GR_hear_39 ?_
      refine lv_if_eq (tgt := 47) hx hb d_GR_hear_40 (by decide) (fun h_3 => ?_) (fun h_3 => ?_)
      ·
        have hG := hG.trans (if_pos h_3)
        refine lv_iconst (v := 0) hx hb d_GR_hear_47 (by decide) ?_
        have hP : va_P D cls (fl_w ad (xc ad cA) 88 (pGF M (M.1 11) (M.1 13) (M.2 12))) H := by rw [id_GF]; exact hP
        refine fl_callv (va_runV (As := [.int (g_FL_fourBitsAt x1 0), .int 0, .int 0]) (rest := []) ⟨hx, hb, hml, hown, hts⟩ (c_GF_hear l hi M (M.1 11) (M.1 13) (M.2 12) (g_FL_fourBitsAt x1 0) 0 0) (kv_GF_hear hts (hts _ (List.mem_cons_of_mem _ tw_576)) ⟨Nat.le_of_ble_eq_true rfl, Nat.le_of_ble_eq_true rfl⟩) (fl_preV hK hSt hN hS hP (by decide) (kc_GF) rfl) rfl rfl hl.1 rfl (lv_room (Nat.le_of_ble_eq_true rfl)) d_GR_hear_48 ⟨Nat.zero_le _, Nat.zero_le _⟩) hS (fun H locs hP hS => ?_)
        refine lv_lload_n hx hb d_GR_hear_51 rfl (lv_at hl 1 rfl) ?_
        refine lv_bipush (v := 12) hx hb d_GR_hear_52 (by decide) ?_
        refine fl_calli (va_runSN (As := [.long x1, .int 12]) (rest := []) ⟨hx, hb, hml, hown, hts⟩ (c_FL_fourBitsAt l hi (pGF M ((g_GF_hear (M.1 11) (M.1 13) (M.2 12) (g_FL_fourBitsAt x1 0) 0 0).1) ((g_GF_hear (M.1 11) (M.1 13) (M.2 12) (g_FL_fourBitsAt x1 0) 0 0).2.1) ((g_GF_hear (M.1 11) (M.1 13) (M.2 12) (g_FL_fourBitsAt x1 0) 0 0).2.2)) x1 12) (kn_FL_fourBitsAt hts (hN.m 9 rfl) ⟨Nat.le_of_ble_eq_true rfl, Nat.le_of_ble_eq_true rfl⟩) (fl_preS hK hSt hN hS hP) rfl rfl hl.1 rfl (lv_room (Nat.le_of_ble_eq_true rfl)) d_GR_hear_54 ⟨Nat.zero_le _, Nat.zero_le _⟩) hS (fun H locs hP hS => ?_)
        refine lv_istore_n (lv' := [(3, .int (g_FL_fourBitsAt x1 12)), (0, .ref (ad 10)), (1, .long x1)]) hx hb d_GR_hear_57 rfl hl (by decide) rfl (fun ls hl => ?_)
        refine lv_aload_n hx hb d_GR_hear_58 rfl (lv_at hl 1 rfl) ?_
        refine lv_iload_n hx hb d_GR_hear_59 rfl (lv_at hl 0 rfl) ?_
        refine fl_calli (va_runV (As := [.int (g_FL_fourBitsAt x1 12)]) (rest := []) ⟨hx, hb, hml, hown, hts⟩ (c_GR_has l hi (pGF M ((g_GF_hear (M.1 11) (M.1 13) (M.2 12) (g_FL_fourBitsAt x1 0) 0 0).1) ((g_GF_hear (M.1 11) (M.1 13) (M.2 12) (g_FL_fourBitsAt x1 0) 0 0).2.1) ((g_GF_hear (M.1 11) (M.1 13) (M.2 12) (g_FL_fourBitsAt x1 0) 0 0).2.2)) (g_FL_fourBitsAt x1 12)) (kv_GR_has hts (hts _ (List.mem_cons_of_mem _ tw_604)) ⟨Nat.le_of_ble_eq_true rfl, Nat.le_of_ble_eq_true rfl⟩) (fl_preV hK hSt hN hS hP (by decide) (kg_GR) rfl) rfl rfl hl.1 rfl (lv_room (Nat.le_of_ble_eq_true rfl)) d_GR_hear_60 ⟨Nat.zero_le _, Nat.zero_le _⟩) hS (fun H locs hP hS => ?_)
        refine lv_if_eq (tgt := 89) hx hb d_GR_hear_63 (by decide) (fun h_4 => ?_) (fun h_4 => ?_)
        ·
          have hG := hG.trans (if_pos h_4)
          exact fl_vret hx hb hr hlocks hP hS (by rw [hG]) d_GR_hear_89
        ·
          have hG := hG.trans (if_neg h_4)
          refine lv_aload_n hx hb d_GR_hear_66 rfl (lv_at hl 1 rfl) ?_
          refine gg_GR (k := 1) (v := .ref (ad 14)) hx hb hts hown hK hP  (hts _ (List.mem_cons_of_mem _ tw_175)) (by decide) rfl rfl d_GR_hear_67 ?_
          refine lv_iload_n hx hb d_GR_hear_70 rfl (lv_at hl 0 rfl) ?_
          have hs_5 : vp_in (g_FL_fourBitsAt x1 12) 16 := fb_in _ _
          refine ar_TRS hx hb hK hP hs_5 d_GR_hear_71 ?_
          refine lv_lload_n hx hb d_GR_hear_72 rfl (lv_at hl 2 rfl) ?_
          refine lv_bipush (v := 8) hx hb d_GR_hear_73 (by decide) ?_
          refine fl_calli (va_runSN (As := [.long x1, .int 8]) (rest := [.ref (ad (24 + 2 * (g_FL_fourBitsAt x1 12).toNatClampNeg))]) ⟨hx, hb, hml, hown, hts⟩ (c_FL_fourBitsAt l hi (pGF M ((g_GF_hear (M.1 11) (M.1 13) (M.2 12) (g_FL_fourBitsAt x1 0) 0 0).1) ((g_GF_hear (M.1 11) (M.1 13) (M.2 12) (g_FL_fourBitsAt x1 0) 0 0).2.1) ((g_GF_hear (M.1 11) (M.1 13) (M.2 12) (g_FL_fourBitsAt x1 0) 0 0).2.2)) x1 8) (kn_FL_fourBitsAt hts (hN.m 9 rfl) ⟨Nat.le_of_ble_eq_true rfl, Nat.le_of_ble_eq_true rfl⟩) (fl_preS hK hSt hN hS hP) rfl rfl hl.1 rfl (lv_room (Nat.le_of_ble_eq_true rfl)) d_GR_hear_75 ⟨Nat.zero_le _, Nat.zero_le _⟩) hS (fun H locs hP hS => ?_)
          refine lv_lload_n hx hb d_GR_hear_78 rfl (lv_at hl 2 rfl) ?_
          refine lv_bipush (v := 16) hx hb d_GR_hear_79 (by decide) ?_
          refine lv_lushr (v := j_lushr x1 16) hx hb d_GR_hear_81 rfl ?_
          refine lv_l2i (v := (j_lushr x1 16).toInt32) hx hb d_GR_hear_82 rfl ?_
          refine lv_ldc (v := 16777215) hx hb hown (hts _ (List.mem_cons_of_mem _ tw_605)) d_GR_hear_83 ?_
          refine lv_iand hx hb d_GR_hear_85 ?_
          have hP : va_P D cls (fl_w ad (xc ad cA) 88 (pTR (pGF M ((g_GF_hear (M.1 11) (M.1 13) (M.2 12) (g_FL_fourBitsAt x1 0) 0 0).1) ((g_GF_hear (M.1 11) (M.1 13) (M.2 12) (g_FL_fourBitsAt x1 0) 0 0).2.1) ((g_GF_hear (M.1 11) (M.1 13) (M.2 12) (g_FL_fourBitsAt x1 0) 0 0).2.2)) (24 + 2 * (g_FL_fourBitsAt x1 12).toNatClampNeg) ((pGF M ((g_GF_hear (M.1 11) (M.1 13) (M.2 12) (g_FL_fourBitsAt x1 0) 0 0).1) ((g_GF_hear (M.1 11) (M.1 13) (M.2 12) (g_FL_fourBitsAt x1 0) 0 0).2.1) ((g_GF_hear (M.1 11) (M.1 13) (M.2 12) (g_FL_fourBitsAt x1 0) 0 0).2.2)).1 (24 + 2 * (g_FL_fourBitsAt x1 12).toNatClampNeg)) ((pGF M ((g_GF_hear (M.1 11) (M.1 13) (M.2 12) (g_FL_fourBitsAt x1 0) 0 0).1) ((g_GF_hear (M.1 11) (M.1 13) (M.2 12) (g_FL_fourBitsAt x1 0) 0 0).2.1) ((g_GF_hear (M.1 11) (M.1 13) (M.2 12) (g_FL_fourBitsAt x1 0) 0 0).2.2)).1 ((24 + 2 * (g_FL_fourBitsAt x1 12).toNatClampNeg) + 1)))) H := by rw [id_TR]; exact hP
          refine fl_callv (va_runV (As := [.int (g_FL_fourBitsAt x1 8), .int (((j_lushr x1 16).toInt32) &&& 16777215)]) (rest := []) ⟨hx, hb, hml, hown, hts⟩ (c_TR_hear l hi (is_TRof hs_5) (pGF M ((g_GF_hear (M.1 11) (M.1 13) (M.2 12) (g_FL_fourBitsAt x1 0) 0 0).1) ((g_GF_hear (M.1 11) (M.1 13) (M.2 12) (g_FL_fourBitsAt x1 0) 0 0).2.1) ((g_GF_hear (M.1 11) (M.1 13) (M.2 12) (g_FL_fourBitsAt x1 0) 0 0).2.2)) ((pGF M ((g_GF_hear (M.1 11) (M.1 13) (M.2 12) (g_FL_fourBitsAt x1 0) 0 0).1) ((g_GF_hear (M.1 11) (M.1 13) (M.2 12) (g_FL_fourBitsAt x1 0) 0 0).2.1) ((g_GF_hear (M.1 11) (M.1 13) (M.2 12) (g_FL_fourBitsAt x1 0) 0 0).2.2)).1 (24 + 2 * (g_FL_fourBitsAt x1 12).toNatClampNeg)) ((pGF M ((g_GF_hear (M.1 11) (M.1 13) (M.2 12) (g_FL_fourBitsAt x1 0) 0 0).1) ((g_GF_hear (M.1 11) (M.1 13) (M.2 12) (g_FL_fourBitsAt x1 0) 0 0).2.1) ((g_GF_hear (M.1 11) (M.1 13) (M.2 12) (g_FL_fourBitsAt x1 0) 0 0).2.2)).1 ((24 + 2 * (g_FL_fourBitsAt x1 12).toNatClampNeg) + 1)) (g_FL_fourBitsAt x1 8) (((j_lushr x1 16).toInt32) &&& 16777215)) (kv_TR_hear hts (hts _ (List.mem_cons_of_mem _ tw_606)) ⟨Nat.le_of_ble_eq_true rfl, Nat.le_of_ble_eq_true rfl⟩) (fl_preV hK hSt hN hS hP (lt_TR (is_TRof hs_5)) (kc_TR (is_TRof hs_5)) rfl) rfl rfl hl.1 rfl (lv_room (Nat.le_of_ble_eq_true rfl)) d_GR_hear_86 ⟨Nat.zero_le _, Nat.zero_le _⟩) hS (fun H locs hP hS => ?_)
          exact fl_vret hx hb hr hlocks hP hS (by rw [hG]) d_GR_hear_89
      ·
        have hG := hG.trans (if_neg h_3)
        refine lv_iconst (v := 1) hx hb d_GR_hear_43 (by decide) ?_
        refine lv_goto (tgt := 48) hx hb d_GR_hear_44 (by decide) ?_
        have hP : va_P D cls (fl_w ad (xc ad cA) 88 (pGF M (M.1 11) (M.1 13) (M.2 12))) H := by rw [id_GF]; exact hP
        refine fl_callv (va_runV (As := [.int (g_FL_fourBitsAt x1 0), .int 0, .int 1]) (rest := []) ⟨hx, hb, hml, hown, hts⟩ (c_GF_hear l hi M (M.1 11) (M.1 13) (M.2 12) (g_FL_fourBitsAt x1 0) 0 1) (kv_GF_hear hts (hts _ (List.mem_cons_of_mem _ tw_576)) ⟨Nat.le_of_ble_eq_true rfl, Nat.le_of_ble_eq_true rfl⟩) (fl_preV hK hSt hN hS hP (by decide) (kc_GF) rfl) rfl rfl hl.1 rfl (lv_room (Nat.le_of_ble_eq_true rfl)) d_GR_hear_48 ⟨Nat.zero_le _, Nat.zero_le _⟩) hS (fun H locs hP hS => ?_)
        refine lv_lload_n hx hb d_GR_hear_51 rfl (lv_at hl 1 rfl) ?_
        refine lv_bipush (v := 12) hx hb d_GR_hear_52 (by decide) ?_
        refine fl_calli (va_runSN (As := [.long x1, .int 12]) (rest := []) ⟨hx, hb, hml, hown, hts⟩ (c_FL_fourBitsAt l hi (pGF M ((g_GF_hear (M.1 11) (M.1 13) (M.2 12) (g_FL_fourBitsAt x1 0) 0 1).1) ((g_GF_hear (M.1 11) (M.1 13) (M.2 12) (g_FL_fourBitsAt x1 0) 0 1).2.1) ((g_GF_hear (M.1 11) (M.1 13) (M.2 12) (g_FL_fourBitsAt x1 0) 0 1).2.2)) x1 12) (kn_FL_fourBitsAt hts (hN.m 9 rfl) ⟨Nat.le_of_ble_eq_true rfl, Nat.le_of_ble_eq_true rfl⟩) (fl_preS hK hSt hN hS hP) rfl rfl hl.1 rfl (lv_room (Nat.le_of_ble_eq_true rfl)) d_GR_hear_54 ⟨Nat.zero_le _, Nat.zero_le _⟩) hS (fun H locs hP hS => ?_)
        refine lv_istore_n (lv' := [(3, .int (g_FL_fourBitsAt x1 12)), (0, .ref (ad 10)), (1, .long x1)]) hx hb d_GR_hear_57 rfl hl (by decide) rfl (fun ls hl => ?_)
        refine lv_aload_n hx hb d_GR_hear_58 rfl (lv_at hl 1 rfl) ?_
        refine lv_iload_n hx hb d_GR_hear_59 rfl (lv_at hl 0 rfl) ?_
        refine fl_calli (va_runV (As := [.int (g_FL_fourBitsAt x1 12)]) (rest := []) ⟨hx, hb, hml, hown, hts⟩ (c_GR_has l hi (pGF M ((g_GF_hear (M.1 11) (M.1 13) (M.2 12) (g_FL_fourBitsAt x1 0) 0 1).1) ((g_GF_hear (M.1 11) (M.1 13) (M.2 12) (g_FL_fourBitsAt x1 0) 0 1).2.1) ((g_GF_hear (M.1 11) (M.1 13) (M.2 12) (g_FL_fourBitsAt x1 0) 0 1).2.2)) (g_FL_fourBitsAt x1 12)) (kv_GR_has hts (hts _ (List.mem_cons_of_mem _ tw_604)) ⟨Nat.le_of_ble_eq_true rfl, Nat.le_of_ble_eq_true rfl⟩) (fl_preV hK hSt hN hS hP (by decide) (kg_GR) rfl) rfl rfl hl.1 rfl (lv_room (Nat.le_of_ble_eq_true rfl)) d_GR_hear_60 ⟨Nat.zero_le _, Nat.zero_le _⟩) hS (fun H locs hP hS => ?_)
        refine lv_if_eq (tgt := 89) hx hb d_GR_hear_63 (by decide) (fun h_6 => ?_) (fun h_6 => ?_)
        ·
          have hG := hG.trans (if_pos h_6)
          exact fl_vret hx hb hr hlocks hP hS (by rw [hG]) d_GR_hear_89
        ·
          have hG := hG.trans (if_neg h_6)
          refine lv_aload_n hx hb d_GR_hear_66 rfl (lv_at hl 1 rfl) ?_
          refine gg_GR (k := 1) (v := .ref (ad 14)) hx hb hts hown hK hP  (hts _ (List.mem_cons_of_mem _ tw_175)) (by decide) rfl rfl d_GR_hear_67 ?_
          refine lv_iload_n hx hb d_GR_hear_70 rfl (lv_at hl 0 rfl) ?_
          have hs_7 : vp_in (g_FL_fourBitsAt x1 12) 16 := fb_in _ _
          refine ar_TRS hx hb hK hP hs_7 d_GR_hear_71 ?_
          refine lv_lload_n hx hb d_GR_hear_72 rfl (lv_at hl 2 rfl) ?_
          refine lv_bipush (v := 8) hx hb d_GR_hear_73 (by decide) ?_
          refine fl_calli (va_runSN (As := [.long x1, .int 8]) (rest := [.ref (ad (24 + 2 * (g_FL_fourBitsAt x1 12).toNatClampNeg))]) ⟨hx, hb, hml, hown, hts⟩ (c_FL_fourBitsAt l hi (pGF M ((g_GF_hear (M.1 11) (M.1 13) (M.2 12) (g_FL_fourBitsAt x1 0) 0 1).1) ((g_GF_hear (M.1 11) (M.1 13) (M.2 12) (g_FL_fourBitsAt x1 0) 0 1).2.1) ((g_GF_hear (M.1 11) (M.1 13) (M.2 12) (g_FL_fourBitsAt x1 0) 0 1).2.2)) x1 8) (kn_FL_fourBitsAt hts (hN.m 9 rfl) ⟨Nat.le_of_ble_eq_true rfl, Nat.le_of_ble_eq_true rfl⟩) (fl_preS hK hSt hN hS hP) rfl rfl hl.1 rfl (lv_room (Nat.le_of_ble_eq_true rfl)) d_GR_hear_75 ⟨Nat.zero_le _, Nat.zero_le _⟩) hS (fun H locs hP hS => ?_)
          refine lv_lload_n hx hb d_GR_hear_78 rfl (lv_at hl 2 rfl) ?_
          refine lv_bipush (v := 16) hx hb d_GR_hear_79 (by decide) ?_
          refine lv_lushr (v := j_lushr x1 16) hx hb d_GR_hear_81 rfl ?_
          refine lv_l2i (v := (j_lushr x1 16).toInt32) hx hb d_GR_hear_82 rfl ?_
          refine lv_ldc (v := 16777215) hx hb hown (hts _ (List.mem_cons_of_mem _ tw_605)) d_GR_hear_83 ?_
          refine lv_iand hx hb d_GR_hear_85 ?_
          have hP : va_P D cls (fl_w ad (xc ad cA) 88 (pTR (pGF M ((g_GF_hear (M.1 11) (M.1 13) (M.2 12) (g_FL_fourBitsAt x1 0) 0 1).1) ((g_GF_hear (M.1 11) (M.1 13) (M.2 12) (g_FL_fourBitsAt x1 0) 0 1).2.1) ((g_GF_hear (M.1 11) (M.1 13) (M.2 12) (g_FL_fourBitsAt x1 0) 0 1).2.2)) (24 + 2 * (g_FL_fourBitsAt x1 12).toNatClampNeg) ((pGF M ((g_GF_hear (M.1 11) (M.1 13) (M.2 12) (g_FL_fourBitsAt x1 0) 0 1).1) ((g_GF_hear (M.1 11) (M.1 13) (M.2 12) (g_FL_fourBitsAt x1 0) 0 1).2.1) ((g_GF_hear (M.1 11) (M.1 13) (M.2 12) (g_FL_fourBitsAt x1 0) 0 1).2.2)).1 (24 + 2 * (g_FL_fourBitsAt x1 12).toNatClampNeg)) ((pGF M ((g_GF_hear (M.1 11) (M.1 13) (M.2 12) (g_FL_fourBitsAt x1 0) 0 1).1) ((g_GF_hear (M.1 11) (M.1 13) (M.2 12) (g_FL_fourBitsAt x1 0) 0 1).2.1) ((g_GF_hear (M.1 11) (M.1 13) (M.2 12) (g_FL_fourBitsAt x1 0) 0 1).2.2)).1 ((24 + 2 * (g_FL_fourBitsAt x1 12).toNatClampNeg) + 1)))) H := by rw [id_TR]; exact hP
          refine fl_callv (va_runV (As := [.int (g_FL_fourBitsAt x1 8), .int (((j_lushr x1 16).toInt32) &&& 16777215)]) (rest := []) ⟨hx, hb, hml, hown, hts⟩ (c_TR_hear l hi (is_TRof hs_7) (pGF M ((g_GF_hear (M.1 11) (M.1 13) (M.2 12) (g_FL_fourBitsAt x1 0) 0 1).1) ((g_GF_hear (M.1 11) (M.1 13) (M.2 12) (g_FL_fourBitsAt x1 0) 0 1).2.1) ((g_GF_hear (M.1 11) (M.1 13) (M.2 12) (g_FL_fourBitsAt x1 0) 0 1).2.2)) ((pGF M ((g_GF_hear (M.1 11) (M.1 13) (M.2 12) (g_FL_fourBitsAt x1 0) 0 1).1) ((g_GF_hear (M.1 11) (M.1 13) (M.2 12) (g_FL_fourBitsAt x1 0) 0 1).2.1) ((g_GF_hear (M.1 11) (M.1 13) (M.2 12) (g_FL_fourBitsAt x1 0) 0 1).2.2)).1 (24 + 2 * (g_FL_fourBitsAt x1 12).toNatClampNeg)) ((pGF M ((g_GF_hear (M.1 11) (M.1 13) (M.2 12) (g_FL_fourBitsAt x1 0) 0 1).1) ((g_GF_hear (M.1 11) (M.1 13) (M.2 12) (g_FL_fourBitsAt x1 0) 0 1).2.1) ((g_GF_hear (M.1 11) (M.1 13) (M.2 12) (g_FL_fourBitsAt x1 0) 0 1).2.2)).1 ((24 + 2 * (g_FL_fourBitsAt x1 12).toNatClampNeg) + 1)) (g_FL_fourBitsAt x1 8) (((j_lushr x1 16).toInt32) &&& 16777215)) (kv_TR_hear hts (hts _ (List.mem_cons_of_mem _ tw_606)) ⟨Nat.le_of_ble_eq_true rfl, Nat.le_of_ble_eq_true rfl⟩) (fl_preV hK hSt hN hS hP (lt_TR (is_TRof hs_7)) (kc_TR (is_TRof hs_7)) rfl) rfl rfl hl.1 rfl (lv_room (Nat.le_of_ble_eq_true rfl)) d_GR_hear_86 ⟨Nat.zero_le _, Nat.zero_le _⟩) hS (fun H locs hP hS => ?_)
          exact fl_vret hx hb hr hlocks hP hS (by rw [hG]) d_GR_hear_89
    ·
      have hG := hG.trans (if_neg h_2)
      refine lv_iconst (v := 1) hx hb d_GR_hear_28 (by decide) ?_
      refine lv_goto (tgt := 33) hx hb d_GR_hear_29 (by decide) ?_
      refine lv_lload_n hx hb d_GR_hear_33 rfl (lv_at hl 1 rfl) ?_
      refine lv_ldc2 (v := 32) hx hb hown (hts _ (List.mem_cons_of_mem _ tw_575)) d_GR_hear_34 ?_
      refine lv_land hx hb d_GR_hear_37 ?_
      refine lv_lconst (v := 0) hx hb d_GR_hear_38 (by decide) ?_
      refine W.lcmp hx hb d_GR_hear_39 ?_
      refine lv_if_eq (tgt := 47) hx hb d_GR_hear_40 (by decide) (fun h_8 => ?_) (fun h_8 => ?_)
      ·
        have hG := hG.trans (if_pos h_8)
        refine lv_iconst (v := 0) hx hb d_GR_hear_47 (by decide) ?_
        have hP : va_P D cls (fl_w ad (xc ad cA) 88 (pGF M (M.1 11) (M.1 13) (M.2 12))) H := by rw [id_GF]; exact hP
        refine fl_callv (va_runV (As := [.int (g_FL_fourBitsAt x1 0), .int 1, .int 0]) (rest := []) ⟨hx, hb, hml, hown, hts⟩ (c_GF_hear l hi M (M.1 11) (M.1 13) (M.2 12) (g_FL_fourBitsAt x1 0) 1 0) (kv_GF_hear hts (hts _ (List.mem_cons_of_mem _ tw_576)) ⟨Nat.le_of_ble_eq_true rfl, Nat.le_of_ble_eq_true rfl⟩) (fl_preV hK hSt hN hS hP (by decide) (kc_GF) rfl) rfl rfl hl.1 rfl (lv_room (Nat.le_of_ble_eq_true rfl)) d_GR_hear_48 ⟨Nat.zero_le _, Nat.zero_le _⟩) hS (fun H locs hP hS => ?_)
        refine lv_lload_n hx hb d_GR_hear_51 rfl (lv_at hl 1 rfl) ?_
        refine lv_bipush (v := 12) hx hb d_GR_hear_52 (by decide) ?_
        refine fl_calli (va_runSN (As := [.long x1, .int 12]) (rest := []) ⟨hx, hb, hml, hown, hts⟩ (c_FL_fourBitsAt l hi (pGF M ((g_GF_hear (M.1 11) (M.1 13) (M.2 12) (g_FL_fourBitsAt x1 0) 1 0).1) ((g_GF_hear (M.1 11) (M.1 13) (M.2 12) (g_FL_fourBitsAt x1 0) 1 0).2.1) ((g_GF_hear (M.1 11) (M.1 13) (M.2 12) (g_FL_fourBitsAt x1 0) 1 0).2.2)) x1 12) (kn_FL_fourBitsAt hts (hN.m 9 rfl) ⟨Nat.le_of_ble_eq_true rfl, Nat.le_of_ble_eq_true rfl⟩) (fl_preS hK hSt hN hS hP) rfl rfl hl.1 rfl (lv_room (Nat.le_of_ble_eq_true rfl)) d_GR_hear_54 ⟨Nat.zero_le _, Nat.zero_le _⟩) hS (fun H locs hP hS => ?_)
        refine lv_istore_n (lv' := [(3, .int (g_FL_fourBitsAt x1 12)), (0, .ref (ad 10)), (1, .long x1)]) hx hb d_GR_hear_57 rfl hl (by decide) rfl (fun ls hl => ?_)
        refine lv_aload_n hx hb d_GR_hear_58 rfl (lv_at hl 1 rfl) ?_
        refine lv_iload_n hx hb d_GR_hear_59 rfl (lv_at hl 0 rfl) ?_
        refine fl_calli (va_runV (As := [.int (g_FL_fourBitsAt x1 12)]) (rest := []) ⟨hx, hb, hml, hown, hts⟩ (c_GR_has l hi (pGF M ((g_GF_hear (M.1 11) (M.1 13) (M.2 12) (g_FL_fourBitsAt x1 0) 1 0).1) ((g_GF_hear (M.1 11) (M.1 13) (M.2 12) (g_FL_fourBitsAt x1 0) 1 0).2.1) ((g_GF_hear (M.1 11) (M.1 13) (M.2 12) (g_FL_fourBitsAt x1 0) 1 0).2.2)) (g_FL_fourBitsAt x1 12)) (kv_GR_has hts (hts _ (List.mem_cons_of_mem _ tw_604)) ⟨Nat.le_of_ble_eq_true rfl, Nat.le_of_ble_eq_true rfl⟩) (fl_preV hK hSt hN hS hP (by decide) (kg_GR) rfl) rfl rfl hl.1 rfl (lv_room (Nat.le_of_ble_eq_true rfl)) d_GR_hear_60 ⟨Nat.zero_le _, Nat.zero_le _⟩) hS (fun H locs hP hS => ?_)
        refine lv_if_eq (tgt := 89) hx hb d_GR_hear_63 (by decide) (fun h_9 => ?_) (fun h_9 => ?_)
        ·
          have hG := hG.trans (if_pos h_9)
          exact fl_vret hx hb hr hlocks hP hS (by rw [hG]) d_GR_hear_89
        ·
          have hG := hG.trans (if_neg h_9)
          refine lv_aload_n hx hb d_GR_hear_66 rfl (lv_at hl 1 rfl) ?_
          refine gg_GR (k := 1) (v := .ref (ad 14)) hx hb hts hown hK hP  (hts _ (List.mem_cons_of_mem _ tw_175)) (by decide) rfl rfl d_GR_hear_67 ?_
          refine lv_iload_n hx hb d_GR_hear_70 rfl (lv_at hl 0 rfl) ?_
          have hs_10 : vp_in (g_FL_fourBitsAt x1 12) 16 := fb_in _ _
          refine ar_TRS hx hb hK hP hs_10 d_GR_hear_71 ?_
          refine lv_lload_n hx hb d_GR_hear_72 rfl (lv_at hl 2 rfl) ?_
          refine lv_bipush (v := 8) hx hb d_GR_hear_73 (by decide) ?_
          refine fl_calli (va_runSN (As := [.long x1, .int 8]) (rest := [.ref (ad (24 + 2 * (g_FL_fourBitsAt x1 12).toNatClampNeg))]) ⟨hx, hb, hml, hown, hts⟩ (c_FL_fourBitsAt l hi (pGF M ((g_GF_hear (M.1 11) (M.1 13) (M.2 12) (g_FL_fourBitsAt x1 0) 1 0).1) ((g_GF_hear (M.1 11) (M.1 13) (M.2 12) (g_FL_fourBitsAt x1 0) 1 0).2.1) ((g_GF_hear (M.1 11) (M.1 13) (M.2 12) (g_FL_fourBitsAt x1 0) 1 0).2.2)) x1 8) (kn_FL_fourBitsAt hts (hN.m 9 rfl) ⟨Nat.le_of_ble_eq_true rfl, Nat.le_of_ble_eq_true rfl⟩) (fl_preS hK hSt hN hS hP) rfl rfl hl.1 rfl (lv_room (Nat.le_of_ble_eq_true rfl)) d_GR_hear_75 ⟨Nat.zero_le _, Nat.zero_le _⟩) hS (fun H locs hP hS => ?_)
          refine lv_lload_n hx hb d_GR_hear_78 rfl (lv_at hl 2 rfl) ?_
          refine lv_bipush (v := 16) hx hb d_GR_hear_79 (by decide) ?_
          refine lv_lushr (v := j_lushr x1 16) hx hb d_GR_hear_81 rfl ?_
          refine lv_l2i (v := (j_lushr x1 16).toInt32) hx hb d_GR_hear_82 rfl ?_
          refine lv_ldc (v := 16777215) hx hb hown (hts _ (List.mem_cons_of_mem _ tw_605)) d_GR_hear_83 ?_
          refine lv_iand hx hb d_GR_hear_85 ?_
          have hP : va_P D cls (fl_w ad (xc ad cA) 88 (pTR (pGF M ((g_GF_hear (M.1 11) (M.1 13) (M.2 12) (g_FL_fourBitsAt x1 0) 1 0).1) ((g_GF_hear (M.1 11) (M.1 13) (M.2 12) (g_FL_fourBitsAt x1 0) 1 0).2.1) ((g_GF_hear (M.1 11) (M.1 13) (M.2 12) (g_FL_fourBitsAt x1 0) 1 0).2.2)) (24 + 2 * (g_FL_fourBitsAt x1 12).toNatClampNeg) ((pGF M ((g_GF_hear (M.1 11) (M.1 13) (M.2 12) (g_FL_fourBitsAt x1 0) 1 0).1) ((g_GF_hear (M.1 11) (M.1 13) (M.2 12) (g_FL_fourBitsAt x1 0) 1 0).2.1) ((g_GF_hear (M.1 11) (M.1 13) (M.2 12) (g_FL_fourBitsAt x1 0) 1 0).2.2)).1 (24 + 2 * (g_FL_fourBitsAt x1 12).toNatClampNeg)) ((pGF M ((g_GF_hear (M.1 11) (M.1 13) (M.2 12) (g_FL_fourBitsAt x1 0) 1 0).1) ((g_GF_hear (M.1 11) (M.1 13) (M.2 12) (g_FL_fourBitsAt x1 0) 1 0).2.1) ((g_GF_hear (M.1 11) (M.1 13) (M.2 12) (g_FL_fourBitsAt x1 0) 1 0).2.2)).1 ((24 + 2 * (g_FL_fourBitsAt x1 12).toNatClampNeg) + 1)))) H := by rw [id_TR]; exact hP
          refine fl_callv (va_runV (As := [.int (g_FL_fourBitsAt x1 8), .int (((j_lushr x1 16).toInt32) &&& 16777215)]) (rest := []) ⟨hx, hb, hml, hown, hts⟩ (c_TR_hear l hi (is_TRof hs_10) (pGF M ((g_GF_hear (M.1 11) (M.1 13) (M.2 12) (g_FL_fourBitsAt x1 0) 1 0).1) ((g_GF_hear (M.1 11) (M.1 13) (M.2 12) (g_FL_fourBitsAt x1 0) 1 0).2.1) ((g_GF_hear (M.1 11) (M.1 13) (M.2 12) (g_FL_fourBitsAt x1 0) 1 0).2.2)) ((pGF M ((g_GF_hear (M.1 11) (M.1 13) (M.2 12) (g_FL_fourBitsAt x1 0) 1 0).1) ((g_GF_hear (M.1 11) (M.1 13) (M.2 12) (g_FL_fourBitsAt x1 0) 1 0).2.1) ((g_GF_hear (M.1 11) (M.1 13) (M.2 12) (g_FL_fourBitsAt x1 0) 1 0).2.2)).1 (24 + 2 * (g_FL_fourBitsAt x1 12).toNatClampNeg)) ((pGF M ((g_GF_hear (M.1 11) (M.1 13) (M.2 12) (g_FL_fourBitsAt x1 0) 1 0).1) ((g_GF_hear (M.1 11) (M.1 13) (M.2 12) (g_FL_fourBitsAt x1 0) 1 0).2.1) ((g_GF_hear (M.1 11) (M.1 13) (M.2 12) (g_FL_fourBitsAt x1 0) 1 0).2.2)).1 ((24 + 2 * (g_FL_fourBitsAt x1 12).toNatClampNeg) + 1)) (g_FL_fourBitsAt x1 8) (((j_lushr x1 16).toInt32) &&& 16777215)) (kv_TR_hear hts (hts _ (List.mem_cons_of_mem _ tw_606)) ⟨Nat.le_of_ble_eq_true rfl, Nat.le_of_ble_eq_true rfl⟩) (fl_preV hK hSt hN hS hP (lt_TR (is_TRof hs_10)) (kc_TR (is_TRof hs_10)) rfl) rfl rfl hl.1 rfl (lv_room (Nat.le_of_ble_eq_true rfl)) d_GR_hear_86 ⟨Nat.zero_le _, Nat.zero_le _⟩) hS (fun H locs hP hS => ?_)
          exact fl_vret hx hb hr hlocks hP hS (by rw [hG]) d_GR_hear_89
      ·
        have hG := hG.trans (if_neg h_8)
        refine lv_iconst (v := 1) hx hb d_GR_hear_43 (by decide) ?_
        refine lv_goto (tgt := 48) hx hb d_GR_hear_44 (by decide) ?_
        have hP : va_P D cls (fl_w ad (xc ad cA) 88 (pGF M (M.1 11) (M.1 13) (M.2 12))) H := by rw [id_GF]; exact hP
        refine fl_callv (va_runV (As := [.int (g_FL_fourBitsAt x1 0), .int 1, .int 1]) (rest := []) ⟨hx, hb, hml, hown, hts⟩ (c_GF_hear l hi M (M.1 11) (M.1 13) (M.2 12) (g_FL_fourBitsAt x1 0) 1 1) (kv_GF_hear hts (hts _ (List.mem_cons_of_mem _ tw_576)) ⟨Nat.le_of_ble_eq_true rfl, Nat.le_of_ble_eq_true rfl⟩) (fl_preV hK hSt hN hS hP (by decide) (kc_GF) rfl) rfl rfl hl.1 rfl (lv_room (Nat.le_of_ble_eq_true rfl)) d_GR_hear_48 ⟨Nat.zero_le _, Nat.zero_le _⟩) hS (fun H locs hP hS => ?_)
        refine lv_lload_n hx hb d_GR_hear_51 rfl (lv_at hl 1 rfl) ?_
        refine lv_bipush (v := 12) hx hb d_GR_hear_52 (by decide) ?_
        refine fl_calli (va_runSN (As := [.long x1, .int 12]) (rest := []) ⟨hx, hb, hml, hown, hts⟩ (c_FL_fourBitsAt l hi (pGF M ((g_GF_hear (M.1 11) (M.1 13) (M.2 12) (g_FL_fourBitsAt x1 0) 1 1).1) ((g_GF_hear (M.1 11) (M.1 13) (M.2 12) (g_FL_fourBitsAt x1 0) 1 1).2.1) ((g_GF_hear (M.1 11) (M.1 13) (M.2 12) (g_FL_fourBitsAt x1 0) 1 1).2.2)) x1 12) (kn_FL_fourBitsAt hts (hN.m 9 rfl) ⟨Nat.le_of_ble_eq_true rfl, Nat.le_of_ble_eq_true rfl⟩) (fl_preS hK hSt hN hS hP) rfl rfl hl.1 rfl (lv_room (Nat.le_of_ble_eq_true rfl)) d_GR_hear_54 ⟨Nat.zero_le _, Nat.zero_le _⟩) hS (fun H locs hP hS => ?_)
        refine lv_istore_n (lv' := [(3, .int (g_FL_fourBitsAt x1 12)), (0, .ref (ad 10)), (1, .long x1)]) hx hb d_GR_hear_57 rfl hl (by decide) rfl (fun ls hl => ?_)
        refine lv_aload_n hx hb d_GR_hear_58 rfl (lv_at hl 1 rfl) ?_
        refine lv_iload_n hx hb d_GR_hear_59 rfl (lv_at hl 0 rfl) ?_
        refine fl_calli (va_runV (As := [.int (g_FL_fourBitsAt x1 12)]) (rest := []) ⟨hx, hb, hml, hown, hts⟩ (c_GR_has l hi (pGF M ((g_GF_hear (M.1 11) (M.1 13) (M.2 12) (g_FL_fourBitsAt x1 0) 1 1).1) ((g_GF_hear (M.1 11) (M.1 13) (M.2 12) (g_FL_fourBitsAt x1 0) 1 1).2.1) ((g_GF_hear (M.1 11) (M.1 13) (M.2 12) (g_FL_fourBitsAt x1 0) 1 1).2.2)) (g_FL_fourBitsAt x1 12)) (kv_GR_has hts (hts _ (List.mem_cons_of_mem _ tw_604)) ⟨Nat.le_of_ble_eq_true rfl, Nat.le_of_ble_eq_true rfl⟩) (fl_preV hK hSt hN hS hP (by decide) (kg_GR) rfl) rfl rfl hl.1 rfl (lv_room (Nat.le_of_ble_eq_true rfl)) d_GR_hear_60 ⟨Nat.zero_le _, Nat.zero_le _⟩) hS (fun H locs hP hS => ?_)
        refine lv_if_eq (tgt := 89) hx hb d_GR_hear_63 (by decide) (fun h_11 => ?_) (fun h_11 => ?_)
        ·
          have hG := hG.trans (if_pos h_11)
          exact fl_vret hx hb hr hlocks hP hS (by rw [hG]) d_GR_hear_89
        ·
          have hG := hG.trans (if_neg h_11)
          refine lv_aload_n hx hb d_GR_hear_66 rfl (lv_at hl 1 rfl) ?_
          refine gg_GR (k := 1) (v := .ref (ad 14)) hx hb hts hown hK hP  (hts _ (List.mem_cons_of_mem _ tw_175)) (by decide) rfl rfl d_GR_hear_67 ?_
          refine lv_iload_n hx hb d_GR_hear_70 rfl (lv_at hl 0 rfl) ?_
          have hs_12 : vp_in (g_FL_fourBitsAt x1 12) 16 := fb_in _ _
          refine ar_TRS hx hb hK hP hs_12 d_GR_hear_71 ?_
          refine lv_lload_n hx hb d_GR_hear_72 rfl (lv_at hl 2 rfl) ?_
          refine lv_bipush (v := 8) hx hb d_GR_hear_73 (by decide) ?_
          refine fl_calli (va_runSN (As := [.long x1, .int 8]) (rest := [.ref (ad (24 + 2 * (g_FL_fourBitsAt x1 12).toNatClampNeg))]) ⟨hx, hb, hml, hown, hts⟩ (c_FL_fourBitsAt l hi (pGF M ((g_GF_hear (M.1 11) (M.1 13) (M.2 12) (g_FL_fourBitsAt x1 0) 1 1).1) ((g_GF_hear (M.1 11) (M.1 13) (M.2 12) (g_FL_fourBitsAt x1 0) 1 1).2.1) ((g_GF_hear (M.1 11) (M.1 13) (M.2 12) (g_FL_fourBitsAt x1 0) 1 1).2.2)) x1 8) (kn_FL_fourBitsAt hts (hN.m 9 rfl) ⟨Nat.le_of_ble_eq_true rfl, Nat.le_of_ble_eq_true rfl⟩) (fl_preS hK hSt hN hS hP) rfl rfl hl.1 rfl (lv_room (Nat.le_of_ble_eq_true rfl)) d_GR_hear_75 ⟨Nat.zero_le _, Nat.zero_le _⟩) hS (fun H locs hP hS => ?_)
          refine lv_lload_n hx hb d_GR_hear_78 rfl (lv_at hl 2 rfl) ?_
          refine lv_bipush (v := 16) hx hb d_GR_hear_79 (by decide) ?_
          refine lv_lushr (v := j_lushr x1 16) hx hb d_GR_hear_81 rfl ?_
          refine lv_l2i (v := (j_lushr x1 16).toInt32) hx hb d_GR_hear_82 rfl ?_
          refine lv_ldc (v := 16777215) hx hb hown (hts _ (List.mem_cons_of_mem _ tw_605)) d_GR_hear_83 ?_
          refine lv_iand hx hb d_GR_hear_85 ?_
          have hP : va_P D cls (fl_w ad (xc ad cA) 88 (pTR (pGF M ((g_GF_hear (M.1 11) (M.1 13) (M.2 12) (g_FL_fourBitsAt x1 0) 1 1).1) ((g_GF_hear (M.1 11) (M.1 13) (M.2 12) (g_FL_fourBitsAt x1 0) 1 1).2.1) ((g_GF_hear (M.1 11) (M.1 13) (M.2 12) (g_FL_fourBitsAt x1 0) 1 1).2.2)) (24 + 2 * (g_FL_fourBitsAt x1 12).toNatClampNeg) ((pGF M ((g_GF_hear (M.1 11) (M.1 13) (M.2 12) (g_FL_fourBitsAt x1 0) 1 1).1) ((g_GF_hear (M.1 11) (M.1 13) (M.2 12) (g_FL_fourBitsAt x1 0) 1 1).2.1) ((g_GF_hear (M.1 11) (M.1 13) (M.2 12) (g_FL_fourBitsAt x1 0) 1 1).2.2)).1 (24 + 2 * (g_FL_fourBitsAt x1 12).toNatClampNeg)) ((pGF M ((g_GF_hear (M.1 11) (M.1 13) (M.2 12) (g_FL_fourBitsAt x1 0) 1 1).1) ((g_GF_hear (M.1 11) (M.1 13) (M.2 12) (g_FL_fourBitsAt x1 0) 1 1).2.1) ((g_GF_hear (M.1 11) (M.1 13) (M.2 12) (g_FL_fourBitsAt x1 0) 1 1).2.2)).1 ((24 + 2 * (g_FL_fourBitsAt x1 12).toNatClampNeg) + 1)))) H := by rw [id_TR]; exact hP
          refine fl_callv (va_runV (As := [.int (g_FL_fourBitsAt x1 8), .int (((j_lushr x1 16).toInt32) &&& 16777215)]) (rest := []) ⟨hx, hb, hml, hown, hts⟩ (c_TR_hear l hi (is_TRof hs_12) (pGF M ((g_GF_hear (M.1 11) (M.1 13) (M.2 12) (g_FL_fourBitsAt x1 0) 1 1).1) ((g_GF_hear (M.1 11) (M.1 13) (M.2 12) (g_FL_fourBitsAt x1 0) 1 1).2.1) ((g_GF_hear (M.1 11) (M.1 13) (M.2 12) (g_FL_fourBitsAt x1 0) 1 1).2.2)) ((pGF M ((g_GF_hear (M.1 11) (M.1 13) (M.2 12) (g_FL_fourBitsAt x1 0) 1 1).1) ((g_GF_hear (M.1 11) (M.1 13) (M.2 12) (g_FL_fourBitsAt x1 0) 1 1).2.1) ((g_GF_hear (M.1 11) (M.1 13) (M.2 12) (g_FL_fourBitsAt x1 0) 1 1).2.2)).1 (24 + 2 * (g_FL_fourBitsAt x1 12).toNatClampNeg)) ((pGF M ((g_GF_hear (M.1 11) (M.1 13) (M.2 12) (g_FL_fourBitsAt x1 0) 1 1).1) ((g_GF_hear (M.1 11) (M.1 13) (M.2 12) (g_FL_fourBitsAt x1 0) 1 1).2.1) ((g_GF_hear (M.1 11) (M.1 13) (M.2 12) (g_FL_fourBitsAt x1 0) 1 1).2.2)).1 ((24 + 2 * (g_FL_fourBitsAt x1 12).toNatClampNeg) + 1)) (g_FL_fourBitsAt x1 8) (((j_lushr x1 16).toInt32) &&& 16777215)) (kv_TR_hear hts (hts _ (List.mem_cons_of_mem _ tw_606)) ⟨Nat.le_of_ble_eq_true rfl, Nat.le_of_ble_eq_true rfl⟩) (fl_preV hK hSt hN hS hP (lt_TR (is_TRof hs_12)) (kc_TR (is_TRof hs_12)) rfl) rfl rfl hl.1 rfl (lv_room (Nat.le_of_ble_eq_true rfl)) d_GR_hear_86 ⟨Nat.zero_le _, Nat.zero_le _⟩) hS (fun H locs hP hS => ?_)
          exact fl_vret hx hb hr hlocks hP hS (by rw [hG]) d_GR_hear_89
  ·
    have hG := hG.trans (if_pos h_1)
    exact fl_vret hx hb hr hlocks hP hS (by rw [hG]) d_GR_hear_8
theorem hd_GR_hear : y_GR_hear.cls ≠ "java/lang/invoke/MethodHandle" ∧ y_GR_hear.cls ≠ "java/lang/invoke/VarHandle" ∧ (parseMethodDescriptor y_GR_hear.desc).map (fun d => d.parameters.length) = some 1 := by decide +kernel
theorem kv_GR_hear {R : Room} {s : State} {args : Array Value} {c0 : Cond} {own : String} {index : Nat} (hts : ∀ w ∈ c0 :: gw, w.before args s = true) (hl : (Cond.methodLink own index y_GR_hear).before args s = true) (hR : 4 + 1 ≤ R.frames ∧ 8 + (4 + 11) + 89 ≤ R.locals) : CallW R s args own "FarLink$Ground" index y_GR_hear b_GR_hear 4 none w_GR_hear ({ frames := 4, cells := 0, slots := 0, locals := 89 } : Room) 0 0 1 := ⟨callB_of 1 hts (gw_in tw_571) rfl rfl rfl (hts _ (List.mem_cons_of_mem _ tw_4)) hl hd_GR_hear hR, hts _ (List.mem_cons_of_mem _ tw_569), hts _ (List.mem_cons_of_mem _ tw_570)⟩
def g_GR_stepClocks_L9  : Nat → Nat → fl_M → fl_M
  | 0, i_9, M1 => (M1)
  | k_9 + 1, i_9, M1 => g_GR_stepClocks_L9  k_9 (i_9 + 1) (pTR M1 (24 + 2 * (nI i_9).toNatClampNeg) ((g_TR_stepClocks (M1.1 (24 + 2 * (nI i_9).toNatClampNeg)) (M1.1 ((24 + 2 * (nI i_9).toNatClampNeg) + 1))).1) ((g_TR_stepClocks (M1.1 (24 + 2 * (nI i_9).toNatClampNeg)) (M1.1 ((24 + 2 * (nI i_9).toNatClampNeg) + 1))).2))
def g_GR_stepClocks (M : fl_M) : fl_M :=
  (g_GR_stepClocks_L9  ((M.1 10 2).toNatClampNeg) 0 (pGF M ((g_GF_stepClock (M.1 11) (M.1 13) (M.2 12)).1) ((g_GF_stepClock (M.1 11) (M.1 13) (M.2 12)).2.1) ((g_GF_stepClock (M.1 11) (M.1 13) (M.2 12)).2.2)))
set_option maxHeartbeats 4000000 in
set_option maxRecDepth 100000 in
theorem c_GR_stepClocks (l : Launch) {D : va_G} {ad : Nat → Nat} {cA : Nat → ClassId} {st : Nat → Nat} (hi : fl_inj ad 88) (M : fl_M) (hu : nn (M.1 11 5)) (hbg : nn (M.1 10 2)) (hb16 : (M.1 10 2).toNatClampNeg ≤ 16) : Met l y_GR_stepClocks w_GR_stepClocks ({ frames := 3, cells := 0, slots := 0, locals := 61 } : Room) (va_Pc [.ref (ad 10)] (fl_B D cls (xt cA) (xSL st) xFN xMN ad (xc ad cA) 88 M)) (va_Qv (fun M' => M' = (g_GR_stepClocks M)) (fl_E D cls ad (xc ad cA) 88) (fl_A ad 88)) 0 0 (fl_A ad 88) := by
  refine Met.ofW (cc := b_GR_stepClocks) (maxL := 2) (ret := none) (by decide) rfl ?_
  intro p e s m args below meth c s₁ B hml hv
  obtain ⟨rfl, hP, hK, hSt, hN⟩ := hv
  have hx := B.exec
  have hb := B.bytes
  have hr := B.returns
  have hts := atoms_spec (ws := w_GR_stepClocks) B.pre
  have hown : s.vm.findClass "FarLink$Ground" = some m.cls := findClass_of_methodNamed B.named
  have hlocks := B.notSynchronized
  have hS : va_S (fl_A ad 88) s.heap s.heap [] := va_S.rf
  have hl := lv_entry ([.ref (ad 10)]) (n := 2) (Nat.le_of_ble_eq_true rfl)
  rw [lg_entry_eq]
  generalize (lg_sl ([.ref (ad 10)]) ++ List.replicate (2 - (lg_sl ([.ref (ad 10)])).length) Slot.unset).toArray = ls at hl ⊢
  have hl : lv_has ls 2 [(0, .ref (ad 10))] := hl
  have hG := g_GR_stepClocks.eq_1 M
  refine lv_aload_n hx hb d_GR_stepClocks_0 rfl (lv_at hl 0 rfl) ?_
  refine gg_GR (k := 0) (v := .ref (ad 11)) hx hb hts hown hK hP  (hts _ (List.mem_cons_of_mem _ tw_173)) (by decide) rfl rfl d_GR_stepClocks_1 ?_
  have hP : va_P D cls (fl_w ad (xc ad cA) 88 (pGF M (M.1 11) (M.1 13) (M.2 12))) s.heap := by rw [id_GF]; exact hP
  refine fl_callv (va_runV (As := []) (rest := []) ⟨hx, hb, hml, hown, hts⟩ (c_GF_stepClock l hi M (M.1 11) (M.1 13) (M.2 12) (hu)) (kv_GF_stepClock hts (hts _ (List.mem_cons_of_mem _ tw_624)) ⟨Nat.le_of_ble_eq_true rfl, Nat.le_of_ble_eq_true rfl⟩) (fl_preV hK hSt hN hS hP (by decide) (kc_GF) rfl) rfl rfl hl.1 rfl (lv_room (Nat.le_of_ble_eq_true rfl)) d_GR_stepClocks_4 ⟨Nat.zero_le _, Nat.zero_le _⟩) hS (fun H locs hP hS => ?_)
  refine lv_iconst (v := 0) hx hb d_GR_stepClocks_7 (by decide) ?_
  refine lv_istore_n (lv' := [(1, .int 0), (0, .ref (ad 10))]) hx hb d_GR_stepClocks_8 rfl hl (by decide) rfl (fun ls hl => ?_)
  have lp_9 : ∀ (k_9 : Nat) (i_9 : Nat) (M1 : fl_M) (ls : Array Slot) (H : Heap) (locs : List Loc), i_9 + k_9 = (M.1 10 2).toNatClampNeg → M1.1 10 2 = M.1 10 2 → lv_has ls 2 [(0, .ref (ad 10)), (1, .int (nI i_9))] → va_P D cls (fl_w ad (xc ad cA) 88 M1) H → va_S (fl_A ad 88) s.heap H locs → (∀ (v : fl_M) (ls : Array Slot) (H : Heap) (locs : List Loc), v = g_GR_stepClocks_L9  k_9 i_9 M1 → lv_has ls 2 [(0, .ref (ad 10))] → va_P D cls (fl_w ad (xc ad cA) 88 v) H → va_S (fl_A ad 88) s.heap H locs → W p l e (headSpec w_GR_stepClocks ({ frames := 3, cells := 0, slots := 0, locals := 61 } : Room)).room s m ([.ref (ad 10)] : List Value).toArray below meth c H locs 0 0 (MQ below (va_Qv (fun M' => M' = (g_GR_stepClocks M)) (fl_E D cls ad (xc ad cA) 88) (fl_A ad 88)) ([.ref (ad 10)] : List Value).toArray s 0 0 (fl_A ad 88)) (F0 m 32 ls [])) → W p l e (headSpec w_GR_stepClocks ({ frames := 3, cells := 0, slots := 0, locals := 61 } : Room)).room s m ([.ref (ad 10)] : List Value).toArray below meth c H locs 0 0 (MQ below (va_Qv (fun M' => M' = (g_GR_stepClocks M)) (fl_E D cls ad (xc ad cA) 88) (fl_A ad 88)) ([.ref (ad 10)] : List Value).toArray s 0 0 (fl_A ad 88)) (F0 m 9 ls []) := by
    intro k_9
    induction k_9 with
    | zero =>
      intro i_9 M1 ls H locs hbd hI hl hP hS kk
      have hG : g_GR_stepClocks_L9  0 i_9 M1 = _ := g_GR_stepClocks_L9.eq_1 ..
      refine lv_iload_n hx hb d_GR_stepClocks_9 rfl (lv_at hl 1 rfl) ?_
      refine lv_aload_n hx hb d_GR_stepClocks_10 rfl (lv_at hl 0 rfl) ?_
      refine gg_GR (k := 2) (v := .int (M1.1 10 2)) hx hb hts hown hK hP  (hts _ (List.mem_cons_of_mem _ tw_177)) (by decide) rfl rfl d_GR_stepClocks_11 ?_
      refine lv_icmp_ge (tgt := 32) hx hb d_GR_stepClocks_14 (by decide) (fun _ => ?_) (fun h_1 => absurd (fl_le (b := (M.1 10 2).toNatClampNeg) (hI.trans hbg) (by omega) (by omega)) h_1)
      have hl := lv_sub (l' := [(0, .ref (ad 10))]) hl [0] rfl
      exact kk (M1) ls _ _ hG.symm hl hP hS
    | succ k_9 ih_9 =>
      intro i_9 M1 ls H locs hbd hI hl hP hS kk
      have hG : g_GR_stepClocks_L9  (k_9 + 1) i_9 M1 = _ := g_GR_stepClocks_L9.eq_2 ..
      refine lv_iload_n hx hb d_GR_stepClocks_9 rfl (lv_at hl 1 rfl) ?_
      refine lv_aload_n hx hb d_GR_stepClocks_10 rfl (lv_at hl 0 rfl) ?_
      refine gg_GR (k := 2) (v := .int (M1.1 10 2)) hx hb hts hown hK hP  (hts _ (List.mem_cons_of_mem _ tw_177)) (by decide) rfl rfl d_GR_stepClocks_11 ?_
      refine lv_icmp_ge (tgt := 32) hx hb d_GR_stepClocks_14 (by decide) (fun h_2 => absurd h_2 (fl_nle (b := (M.1 10 2).toNatClampNeg) (hI.trans hbg) (by omega) (by omega))) (fun _ => ?_)
      refine lv_aload_n hx hb d_GR_stepClocks_17 rfl (lv_at hl 0 rfl) ?_
      refine gg_GR (k := 1) (v := .ref (ad 14)) hx hb hts hown hK hP  (hts _ (List.mem_cons_of_mem _ tw_175)) (by decide) rfl rfl d_GR_stepClocks_18 ?_
      refine lv_iload_n hx hb d_GR_stepClocks_21 rfl (lv_at hl 1 rfl) ?_
      have hs_3 : vp_in (nI i_9) 16 := vp_in_nI (by omega) (by decide)
      refine ar_TRS hx hb hK hP hs_3 d_GR_stepClocks_22 ?_
      have hP : va_P D cls (fl_w ad (xc ad cA) 88 (pTR M1 (24 + 2 * (nI i_9).toNatClampNeg) (M1.1 (24 + 2 * (nI i_9).toNatClampNeg)) (M1.1 ((24 + 2 * (nI i_9).toNatClampNeg) + 1)))) H := by rw [id_TR]; exact hP
      refine fl_callv (va_runV (As := []) (rest := []) ⟨hx, hb, hml, hown, hts⟩ (c_TR_stepClocks l hi (is_TRof hs_3) M1 (M1.1 (24 + 2 * (nI i_9).toNatClampNeg)) (M1.1 ((24 + 2 * (nI i_9).toNatClampNeg) + 1))) (kv_TR_stepClocks hts (hts _ (List.mem_cons_of_mem _ tw_628)) ⟨Nat.le_of_ble_eq_true rfl, Nat.le_of_ble_eq_true rfl⟩) (fl_preV hK hSt hN hS hP (lt_TR (is_TRof hs_3)) (kc_TR (is_TRof hs_3)) rfl) rfl rfl hl.1 rfl (lv_room (Nat.le_of_ble_eq_true rfl)) d_GR_stepClocks_23 ⟨Nat.zero_le _, Nat.zero_le _⟩) hS (fun H locs hP hS => ?_)
      refine lv_iinc (k := 1) (v := nI (i_9 + 1)) (lv' := [(1, .int (nI (i_9 + 1))), (0, .ref (ad 10))]) hx hb d_GR_stepClocks_26 hl rfl (fl_inc _) (by decide) rfl (fun ls hl => ?_)
      refine lv_goto (tgt := 9) hx hb d_GR_stepClocks_29 (by decide) ?_
      have hl := lv_sub (l' := [(0, .ref (ad 10)), (1, .int (nI (i_9 + 1)))]) hl [1, 0] rfl
      exact ih_9 (i_9 + 1) (pTR M1 (24 + 2 * (nI i_9).toNatClampNeg) ((g_TR_stepClocks (M1.1 (24 + 2 * (nI i_9).toNatClampNeg)) (M1.1 ((24 + 2 * (nI i_9).toNatClampNeg) + 1))).1) ((g_TR_stepClocks (M1.1 (24 + 2 * (nI i_9).toNatClampNeg)) (M1.1 ((24 + 2 * (nI i_9).toNatClampNeg) + 1))).2)) ls _ _ (by omega) ((congrFun (nb_TR (by omega) (by omega)) 2).trans hI) hl hP hS (fun v ls H locs hv => kk v ls H locs (hv.trans hG.symm))
  have hl := lv_sub (l' := [(0, .ref (ad 10)), (1, .int (nI 0))]) hl [1, 0] rfl
  refine lp_9 ((M.1 10 2).toNatClampNeg) 0 (pGF M ((g_GF_stepClock (M.1 11) (M.1 13) (M.2 12)).1) ((g_GF_stepClock (M.1 11) (M.1 13) (M.2 12)).2.1) ((g_GF_stepClock (M.1 11) (M.1 13) (M.2 12)).2.2)) ls _ _ (by omega) (rfl) hl hP hS (fun v ls H locs hv hl hP hS => ?_)
  subst hv
  exact fl_vret hx hb hr hlocks hP hS (by rw [hG]) d_GR_stepClocks_32
theorem hd_GR_stepClocks : y_GR_stepClocks.cls ≠ "java/lang/invoke/MethodHandle" ∧ y_GR_stepClocks.cls ≠ "java/lang/invoke/VarHandle" ∧ (parseMethodDescriptor y_GR_stepClocks.desc).map (fun d => d.parameters.length) = some 0 := by decide +kernel
theorem kv_GR_stepClocks {R : Room} {s : State} {args : Array Value} {c0 : Cond} {own : String} {index : Nat} (hts : ∀ w ∈ c0 :: gw, w.before args s = true) (hl : (Cond.methodLink own index y_GR_stepClocks).before args s = true) (hR : 3 + 1 ≤ R.frames ∧ 8 + (2 + 11) + 61 ≤ R.locals) : CallW R s args own "FarLink$Ground" index y_GR_stepClocks b_GR_stepClocks 2 none w_GR_stepClocks ({ frames := 3, cells := 0, slots := 0, locals := 61 } : Room) 0 0 0 := ⟨callB_of 0 hts (gw_in tw_623) rfl rfl rfl (hts _ (List.mem_cons_of_mem _ tw_4)) hl hd_GR_stepClocks hR, hts _ (List.mem_cons_of_mem _ tw_621), hts _ (List.mem_cons_of_mem _ tw_622)⟩
def g_GR_countEnded_L4 (M : fl_M) : Nat → Nat → Int32 → Int32
  | 0, i_4, ce => (ce)
  | k_4 + 1, i_4, ce => if (M.1 (24 + 2 * (nI i_4).toNatClampNeg) 14) = 0 then (g_GR_countEnded_L4 M k_4 (i_4 + 1) ce) else (g_GR_countEnded_L4 M k_4 (i_4 + 1) (ce + Int32.ofInt 1))
def g_GR_countEnded (M : fl_M) : Int32 :=
  (g_GR_countEnded_L4 M ((M.1 10 2).toNatClampNeg) 0 0)
set_option maxHeartbeats 4000000 in
set_option maxRecDepth 100000 in
theorem c_GR_countEnded (l : Launch) {D : va_G} {ad : Nat → Nat} {cA : Nat → ClassId} {st : Nat → Nat} (hi : fl_inj ad 88) (M : fl_M) (hbg : nn (M.1 10 2)) (hb16 : (M.1 10 2).toNatClampNeg ≤ 16) : Met l y_GR_countEnded w_GR_countEnded ({ frames := 0, cells := 0, slots := 0, locals := 0 } : Room) (va_Pc [.ref (ad 10)] (fl_B D cls (xt cA) (xSL st) xFN xMN ad (xc ad cA) 88 M)) (va_Qi (fun r M' => r = (g_GR_countEnded M) ∧ M' = M) (fl_E D cls ad (xc ad cA) 88) (fl_A ad 88)) 0 0 (fl_A ad 88) := by
  refine Met.ofW (cc := b_GR_countEnded) (maxL := 3) (ret := (some .int)) (by decide) rfl ?_
  intro p e s m args below meth c s₁ B hml hv
  obtain ⟨rfl, hP, hK, hSt, hN⟩ := hv
  have hx := B.exec
  have hb := B.bytes
  have hr := B.returns
  have hts := atoms_spec (ws := w_GR_countEnded) B.pre
  have hown : s.vm.findClass "FarLink$Ground" = some m.cls := findClass_of_methodNamed B.named
  have hlocks := B.notSynchronized
  have hS : va_S (fl_A ad 88) s.heap s.heap [] := va_S.rf
  have hl := lv_entry ([.ref (ad 10)]) (n := 3) (Nat.le_of_ble_eq_true rfl)
  rw [lg_entry_eq]
  generalize (lg_sl ([.ref (ad 10)]) ++ List.replicate (3 - (lg_sl ([.ref (ad 10)])).length) Slot.unset).toArray = ls at hl ⊢
  have hl : lv_has ls 3 [(0, .ref (ad 10))] := hl
  have hG := g_GR_countEnded.eq_1 M
  refine lv_iconst (v := 0) hx hb d_GR_countEnded_0 (by decide) ?_
  refine lv_istore_n (lv' := [(1, .int 0), (0, .ref (ad 10))]) hx hb d_GR_countEnded_1 rfl hl (by decide) rfl (fun ls hl => ?_)
  refine lv_iconst (v := 0) hx hb d_GR_countEnded_2 (by decide) ?_
  refine lv_istore_n (lv' := [(2, .int 0), (1, .int 0), (0, .ref (ad 10))]) hx hb d_GR_countEnded_3 rfl hl (by decide) rfl (fun ls hl => ?_)
  have lp_4 : ∀ (k_4 : Nat) (i_4 : Nat) (ce : Int32) (ls : Array Slot) (H : Heap) (locs : List Loc), i_4 + k_4 = (M.1 10 2).toNatClampNeg → lv_has ls 3 [(0, .ref (ad 10)), (1, .int ce), (2, .int (nI i_4))] → va_P D cls (fl_w ad (xc ad cA) 88 M) H → va_S (fl_A ad 88) s.heap H locs → (∀ (v : Int32) (ls : Array Slot) (H : Heap) (locs : List Loc), v = g_GR_countEnded_L4 M k_4 i_4 ce → lv_has ls 3 [(0, .ref (ad 10)), (1, .int v)] → va_P D cls (fl_w ad (xc ad cA) 88 M) H → va_S (fl_A ad 88) s.heap H locs → W p l e (headSpec w_GR_countEnded ({ frames := 0, cells := 0, slots := 0, locals := 0 } : Room)).room s m ([.ref (ad 10)] : List Value).toArray below meth c H locs 0 0 (MQ below (va_Qi (fun r M' => r = (g_GR_countEnded M) ∧ M' = M) (fl_E D cls ad (xc ad cA) 88) (fl_A ad 88)) ([.ref (ad 10)] : List Value).toArray s 0 0 (fl_A ad 88)) (F0 m 33 ls [])) → W p l e (headSpec w_GR_countEnded ({ frames := 0, cells := 0, slots := 0, locals := 0 } : Room)).room s m ([.ref (ad 10)] : List Value).toArray below meth c H locs 0 0 (MQ below (va_Qi (fun r M' => r = (g_GR_countEnded M) ∧ M' = M) (fl_E D cls ad (xc ad cA) 88) (fl_A ad 88)) ([.ref (ad 10)] : List Value).toArray s 0 0 (fl_A ad 88)) (F0 m 4 ls []) := by
    intro k_4
    induction k_4 with
    | zero =>
      intro i_4 ce ls H locs hbd hl hP hS kk
      have hG : g_GR_countEnded_L4 M 0 i_4 ce = _ := g_GR_countEnded_L4.eq_1 ..
      refine lv_iload_n hx hb d_GR_countEnded_4 rfl (lv_at hl 2 rfl) ?_
      refine lv_aload_n hx hb d_GR_countEnded_5 rfl (lv_at hl 0 rfl) ?_
      refine gg_GR (k := 2) (v := .int (M.1 10 2)) hx hb hts hown hK hP  (hts _ (List.mem_cons_of_mem _ tw_177)) (by decide) rfl rfl d_GR_countEnded_6 ?_
      refine lv_icmp_ge (tgt := 33) hx hb d_GR_countEnded_9 (by decide) (fun _ => ?_) (fun h_1 => absurd (fl_le (b := (M.1 10 2).toNatClampNeg) hbg (by omega) (by omega)) h_1)
      have hl := lv_sub (l' := [(0, .ref (ad 10)), (1, .int ce)]) hl [0, 1] rfl
      exact kk (ce) ls _ _ hG.symm hl hP hS
    | succ k_4 ih_4 =>
      intro i_4 ce ls H locs hbd hl hP hS kk
      have hG : g_GR_countEnded_L4 M (k_4 + 1) i_4 ce = _ := g_GR_countEnded_L4.eq_2 ..
      refine lv_iload_n hx hb d_GR_countEnded_4 rfl (lv_at hl 2 rfl) ?_
      refine lv_aload_n hx hb d_GR_countEnded_5 rfl (lv_at hl 0 rfl) ?_
      refine gg_GR (k := 2) (v := .int (M.1 10 2)) hx hb hts hown hK hP  (hts _ (List.mem_cons_of_mem _ tw_177)) (by decide) rfl rfl d_GR_countEnded_6 ?_
      refine lv_icmp_ge (tgt := 33) hx hb d_GR_countEnded_9 (by decide) (fun h_2 => absurd h_2 (fl_nle (b := (M.1 10 2).toNatClampNeg) hbg (by omega) (by omega))) (fun _ => ?_)
      refine lv_aload_n hx hb d_GR_countEnded_12 rfl (lv_at hl 0 rfl) ?_
      refine gg_GR (k := 1) (v := .ref (ad 14)) hx hb hts hown hK hP  (hts _ (List.mem_cons_of_mem _ tw_175)) (by decide) rfl rfl d_GR_countEnded_13 ?_
      refine lv_iload_n hx hb d_GR_countEnded_16 rfl (lv_at hl 2 rfl) ?_
      have hs_3 : vp_in (nI i_4) 16 := vp_in_nI (by omega) (by decide)
      refine ar_TRS hx hb hK hP hs_3 d_GR_countEnded_17 ?_
      refine gg_TRN (k := 14) (v := .int (M.1 (24 + 2 * (nI i_4).toNatClampNeg) 14)) hx hb hts hown hK hP (is_TRof hs_3) (hN.f 7 rfl) (by decide) rfl rfl d_GR_countEnded_18 ?_
      refine lv_if_eq (tgt := 27) hx hb d_GR_countEnded_21 (by decide) (fun h_4 => ?_) (fun h_4 => ?_)
      ·
        have hG := hG.trans (if_pos h_4)
        refine lv_iinc (k := 2) (v := nI (i_4 + 1)) (lv' := [(2, .int (nI (i_4 + 1))), (0, .ref (ad 10)), (1, .int ce)]) hx hb d_GR_countEnded_27 hl rfl (fl_inc _) (by decide) rfl (fun ls hl => ?_)
        refine lv_goto (tgt := 4) hx hb d_GR_countEnded_30 (by decide) ?_
        have hl := lv_sub (l' := [(0, .ref (ad 10)), (1, .int ce), (2, .int (nI (i_4 + 1)))]) hl [1, 2, 0] rfl
        exact ih_4 (i_4 + 1) ce ls _ _ (by omega) hl hP hS (fun v ls H locs hv => kk v ls H locs (hv.trans hG.symm))
      ·
        have hG := hG.trans (if_neg h_4)
        refine lv_iinc (k := 1) (v := ce + Int32.ofInt 1) (lv' := [(1, .int (ce + Int32.ofInt 1)), (0, .ref (ad 10)), (2, .int (nI i_4))]) hx hb d_GR_countEnded_24 hl rfl (rfl) (by decide) rfl (fun ls hl => ?_)
        refine lv_iinc (k := 2) (v := nI (i_4 + 1)) (lv' := [(2, .int (nI (i_4 + 1))), (1, .int (ce + Int32.ofInt 1)), (0, .ref (ad 10))]) hx hb d_GR_countEnded_27 hl rfl (fl_inc _) (by decide) rfl (fun ls hl => ?_)
        refine lv_goto (tgt := 4) hx hb d_GR_countEnded_30 (by decide) ?_
        have hl := lv_sub (l' := [(0, .ref (ad 10)), (1, .int (ce + Int32.ofInt 1)), (2, .int (nI (i_4 + 1)))]) hl [2, 1, 0] rfl
        exact ih_4 (i_4 + 1) (ce + Int32.ofInt 1) ls _ _ (by omega) hl hP hS (fun v ls H locs hv => kk v ls H locs (hv.trans hG.symm))
  have hl := lv_sub (l' := [(0, .ref (ad 10)), (1, .int 0), (2, .int (nI 0))]) hl [2, 1, 0] rfl
  refine lp_4 ((M.1 10 2).toNatClampNeg) 0 0 ls _ _ (by omega) hl hP hS (fun v ls H locs hv hl hP hS => ?_)
  subst hv
  refine lv_iload_n hx hb d_GR_countEnded_33 rfl (lv_at hl 1 rfl) ?_
  exact fl_iret hx hb hr hlocks hP hS hG.symm rfl d_GR_countEnded_34
theorem hd_GR_countEnded : y_GR_countEnded.cls ≠ "java/lang/invoke/MethodHandle" ∧ y_GR_countEnded.cls ≠ "java/lang/invoke/VarHandle" ∧ (parseMethodDescriptor y_GR_countEnded.desc).map (fun d => d.parameters.length) = some 0 := by decide +kernel
theorem kv_GR_countEnded {R : Room} {s : State} {args : Array Value} {c0 : Cond} {own : String} {index : Nat} (hts : ∀ w ∈ c0 :: gw, w.before args s = true) (hl : (Cond.methodLink own index y_GR_countEnded).before args s = true) (hR : 0 + 1 ≤ R.frames ∧ 8 + (3 + 11) + 0 ≤ R.locals) : CallW R s args own "FarLink$Ground" index y_GR_countEnded b_GR_countEnded 3 (some .int) w_GR_countEnded ({ frames := 0, cells := 0, slots := 0, locals := 0 } : Room) 0 0 0 := ⟨callB_of 0 hts (gw_in tw_374) rfl rfl rfl (hts _ (List.mem_cons_of_mem _ tw_4)) hl hd_GR_countEnded hR, hts _ (List.mem_cons_of_mem _ tw_372), hts _ (List.mem_cons_of_mem _ tw_373)⟩
def g_GR_nextInfo_L47  : Nat → Nat → Int32 → fl_M → (Int64 × fl_M)
  | 0, i_47, rm, M1 => ((-1), M1)
  | k_47 + 1, i_47, rm, M1 => if (g_TR_hasToSend (M1.1 (24 + 2 * (nI i_47).toNatClampNeg)) (M1.1 ((24 + 2 * (nI i_47).toNatClampNeg) + 1))) = 0 then (g_GR_nextInfo_L47  k_47 (i_47 + 1) rm M1) else (if (M1.1 (24 + 2 * (nI i_47).toNatClampNeg) 5) = 0 then (if rm = 0 then (g_GR_nextInfo_L47  k_47 (i_47 + 1) rm M1) else (((g_GF_sendInOrder ((pTR M1 (24 + 2 * (nI i_47).toNatClampNeg) ((g_TR_nextPdu (M1.1 (24 + 2 * (nI i_47).toNatClampNeg)) (M1.1 ((24 + 2 * (nI i_47).toNatClampNeg) + 1))).2.1) ((g_TR_nextPdu (M1.1 (24 + 2 * (nI i_47).toNatClampNeg)) (M1.1 ((24 + 2 * (nI i_47).toNatClampNeg) + 1))).2.2)).1 11) ((pTR M1 (24 + 2 * (nI i_47).toNatClampNeg) ((g_TR_nextPdu (M1.1 (24 + 2 * (nI i_47).toNatClampNeg)) (M1.1 ((24 + 2 * (nI i_47).toNatClampNeg) + 1))).2.1) ((g_TR_nextPdu (M1.1 (24 + 2 * (nI i_47).toNatClampNeg)) (M1.1 ((24 + 2 * (nI i_47).toNatClampNeg) + 1))).2.2)).1 13) ((pTR M1 (24 + 2 * (nI i_47).toNatClampNeg) ((g_TR_nextPdu (M1.1 (24 + 2 * (nI i_47).toNatClampNeg)) (M1.1 ((24 + 2 * (nI i_47).toNatClampNeg) + 1))).2.1) ((g_TR_nextPdu (M1.1 (24 + 2 * (nI i_47).toNatClampNeg)) (M1.1 ((24 + 2 * (nI i_47).toNatClampNeg) + 1))).2.2)).2 12) ((g_TR_nextPdu (M1.1 (24 + 2 * (nI i_47).toNatClampNeg)) (M1.1 ((24 + 2 * (nI i_47).toNatClampNeg) + 1))).1)).1, (pGF (pTR M1 (24 + 2 * (nI i_47).toNatClampNeg) ((g_TR_nextPdu (M1.1 (24 + 2 * (nI i_47).toNatClampNeg)) (M1.1 ((24 + 2 * (nI i_47).toNatClampNeg) + 1))).2.1) ((g_TR_nextPdu (M1.1 (24 + 2 * (nI i_47).toNatClampNeg)) (M1.1 ((24 + 2 * (nI i_47).toNatClampNeg) + 1))).2.2)) ((g_GF_sendInOrder ((pTR M1 (24 + 2 * (nI i_47).toNatClampNeg) ((g_TR_nextPdu (M1.1 (24 + 2 * (nI i_47).toNatClampNeg)) (M1.1 ((24 + 2 * (nI i_47).toNatClampNeg) + 1))).2.1) ((g_TR_nextPdu (M1.1 (24 + 2 * (nI i_47).toNatClampNeg)) (M1.1 ((24 + 2 * (nI i_47).toNatClampNeg) + 1))).2.2)).1 11) ((pTR M1 (24 + 2 * (nI i_47).toNatClampNeg) ((g_TR_nextPdu (M1.1 (24 + 2 * (nI i_47).toNatClampNeg)) (M1.1 ((24 + 2 * (nI i_47).toNatClampNeg) + 1))).2.1) ((g_TR_nextPdu (M1.1 (24 + 2 * (nI i_47).toNatClampNeg)) (M1.1 ((24 + 2 * (nI i_47).toNatClampNeg) + 1))).2.2)).1 13) ((pTR M1 (24 + 2 * (nI i_47).toNatClampNeg) ((g_TR_nextPdu (M1.1 (24 + 2 * (nI i_47).toNatClampNeg)) (M1.1 ((24 + 2 * (nI i_47).toNatClampNeg) + 1))).2.1) ((g_TR_nextPdu (M1.1 (24 + 2 * (nI i_47).toNatClampNeg)) (M1.1 ((24 + 2 * (nI i_47).toNatClampNeg) + 1))).2.2)).2 12) ((g_TR_nextPdu (M1.1 (24 + 2 * (nI i_47).toNatClampNeg)) (M1.1 ((24 + 2 * (nI i_47).toNatClampNeg) + 1))).1)).2.1) ((g_GF_sendInOrder ((pTR M1 (24 + 2 * (nI i_47).toNatClampNeg) ((g_TR_nextPdu (M1.1 (24 + 2 * (nI i_47).toNatClampNeg)) (M1.1 ((24 + 2 * (nI i_47).toNatClampNeg) + 1))).2.1) ((g_TR_nextPdu (M1.1 (24 + 2 * (nI i_47).toNatClampNeg)) (M1.1 ((24 + 2 * (nI i_47).toNatClampNeg) + 1))).2.2)).1 11) ((pTR M1 (24 + 2 * (nI i_47).toNatClampNeg) ((g_TR_nextPdu (M1.1 (24 + 2 * (nI i_47).toNatClampNeg)) (M1.1 ((24 + 2 * (nI i_47).toNatClampNeg) + 1))).2.1) ((g_TR_nextPdu (M1.1 (24 + 2 * (nI i_47).toNatClampNeg)) (M1.1 ((24 + 2 * (nI i_47).toNatClampNeg) + 1))).2.2)).1 13) ((pTR M1 (24 + 2 * (nI i_47).toNatClampNeg) ((g_TR_nextPdu (M1.1 (24 + 2 * (nI i_47).toNatClampNeg)) (M1.1 ((24 + 2 * (nI i_47).toNatClampNeg) + 1))).2.1) ((g_TR_nextPdu (M1.1 (24 + 2 * (nI i_47).toNatClampNeg)) (M1.1 ((24 + 2 * (nI i_47).toNatClampNeg) + 1))).2.2)).2 12) ((g_TR_nextPdu (M1.1 (24 + 2 * (nI i_47).toNatClampNeg)) (M1.1 ((24 + 2 * (nI i_47).toNatClampNeg) + 1))).1)).2.2.1) ((g_GF_sendInOrder ((pTR M1 (24 + 2 * (nI i_47).toNatClampNeg) ((g_TR_nextPdu (M1.1 (24 + 2 * (nI i_47).toNatClampNeg)) (M1.1 ((24 + 2 * (nI i_47).toNatClampNeg) + 1))).2.1) ((g_TR_nextPdu (M1.1 (24 + 2 * (nI i_47).toNatClampNeg)) (M1.1 ((24 + 2 * (nI i_47).toNatClampNeg) + 1))).2.2)).1 11) ((pTR M1 (24 + 2 * (nI i_47).toNatClampNeg) ((g_TR_nextPdu (M1.1 (24 + 2 * (nI i_47).toNatClampNeg)) (M1.1 ((24 + 2 * (nI i_47).toNatClampNeg) + 1))).2.1) ((g_TR_nextPdu (M1.1 (24 + 2 * (nI i_47).toNatClampNeg)) (M1.1 ((24 + 2 * (nI i_47).toNatClampNeg) + 1))).2.2)).1 13) ((pTR M1 (24 + 2 * (nI i_47).toNatClampNeg) ((g_TR_nextPdu (M1.1 (24 + 2 * (nI i_47).toNatClampNeg)) (M1.1 ((24 + 2 * (nI i_47).toNatClampNeg) + 1))).2.1) ((g_TR_nextPdu (M1.1 (24 + 2 * (nI i_47).toNatClampNeg)) (M1.1 ((24 + 2 * (nI i_47).toNatClampNeg) + 1))).2.2)).2 12) ((g_TR_nextPdu (M1.1 (24 + 2 * (nI i_47).toNatClampNeg)) (M1.1 ((24 + 2 * (nI i_47).toNatClampNeg) + 1))).1)).2.2.2))))) else ((4503599627370496 ||| ((g_TR_nextPdu (M1.1 (24 + 2 * (nI i_47).toNatClampNeg)) (M1.1 ((24 + 2 * (nI i_47).toNatClampNeg) + 1))).1), (pTR M1 (24 + 2 * (nI i_47).toNatClampNeg) ((g_TR_nextPdu (M1.1 (24 + 2 * (nI i_47).toNatClampNeg)) (M1.1 ((24 + 2 * (nI i_47).toNatClampNeg) + 1))).2.1) ((g_TR_nextPdu (M1.1 (24 + 2 * (nI i_47).toNatClampNeg)) (M1.1 ((24 + 2 * (nI i_47).toNatClampNeg) + 1))).2.2)))))
def g_GR_nextInfo (M : fl_M) : Int64 × fl_M :=
  if (M.1 11 9) = 0 then (if (lg_cmp ((g_GF_sendMarked (M.1 11) (M.1 13) (M.2 12)).1) (-1)) = 0 then (g_GR_nextInfo_L47  ((M.1 10 2).toNatClampNeg) 0 (g_GF_hasRoom ((pGF M ((g_GF_sendMarked (M.1 11) (M.1 13) (M.2 12)).2.1) ((g_GF_sendMarked (M.1 11) (M.1 13) (M.2 12)).2.2.1) ((g_GF_sendMarked (M.1 11) (M.1 13) (M.2 12)).2.2.2)).1 11) ((pGF M ((g_GF_sendMarked (M.1 11) (M.1 13) (M.2 12)).2.1) ((g_GF_sendMarked (M.1 11) (M.1 13) (M.2 12)).2.2.1) ((g_GF_sendMarked (M.1 11) (M.1 13) (M.2 12)).2.2.2)).1 13) ((pGF M ((g_GF_sendMarked (M.1 11) (M.1 13) (M.2 12)).2.1) ((g_GF_sendMarked (M.1 11) (M.1 13) (M.2 12)).2.2.1) ((g_GF_sendMarked (M.1 11) (M.1 13) (M.2 12)).2.2.2)).2 12)) (pGF M ((g_GF_sendMarked (M.1 11) (M.1 13) (M.2 12)).2.1) ((g_GF_sendMarked (M.1 11) (M.1 13) (M.2 12)).2.2.1) ((g_GF_sendMarked (M.1 11) (M.1 13) (M.2 12)).2.2.2))) else (((g_GF_sendMarked (M.1 11) (M.1 13) (M.2 12)).1, (pGF M ((g_GF_sendMarked (M.1 11) (M.1 13) (M.2 12)).2.1) ((g_GF_sendMarked (M.1 11) (M.1 13) (M.2 12)).2.2.1) ((g_GF_sendMarked (M.1 11) (M.1 13) (M.2 12)).2.2.2))))) else (((g_GF_sendDirective (M.1 11) (M.1 13) (M.2 12)).1, (pGF M ((g_GF_sendDirective (M.1 11) (M.1 13) (M.2 12)).2.1) ((g_GF_sendDirective (M.1 11) (M.1 13) (M.2 12)).2.2.1) ((g_GF_sendDirective (M.1 11) (M.1 13) (M.2 12)).2.2.2))))
set_option maxHeartbeats 4000000 in
set_option maxRecDepth 100000 in
theorem c_GR_nextInfo (l : Launch) {D : va_G} {ad : Nat → Nat} {cA : Nat → ClassId} {st : Nat → Nat} (hi : fl_inj ad 88) (M : fl_M) (hu : nn (M.1 11 5)) (hn : vp_in (M.1 11 4) 16) (hbg : nn (M.1 10 2)) (hb16 : (M.1 10 2).toNatClampNeg ≤ 16) : Met l y_GR_nextInfo w_GR_nextInfo ({ frames := 2, cells := 0, slots := 0, locals := 46 } : Room) (va_Pc [.ref (ad 10)] (fl_B D cls (xt cA) (xSL st) xFN xMN ad (xc ad cA) 88 M)) (va_Ql (fun r M' => r = (g_GR_nextInfo M).1 ∧ M' = ((g_GR_nextInfo M).2)) (fl_E D cls ad (xc ad cA) 88) (fl_A ad 88)) 0 0 (fl_A ad 88) := by
  refine Met.ofW (cc := b_GR_nextInfo) (maxL := 6) (ret := (some .long)) (by decide) rfl ?_
  intro p e s m args below meth c s₁ B hml hv
  obtain ⟨rfl, hP, hK, hSt, hN⟩ := hv
  have hx := B.exec
  have hb := B.bytes
  have hr := B.returns
  have hts := atoms_spec (ws := w_GR_nextInfo) B.pre
  have hown : s.vm.findClass "FarLink$Ground" = some m.cls := findClass_of_methodNamed B.named
  have hlocks := B.notSynchronized
  have hS : va_S (fl_A ad 88) s.heap s.heap [] := va_S.rf
  have hl := lv_entry ([.ref (ad 10)]) (n := 6) (Nat.le_of_ble_eq_true rfl)
  rw [lg_entry_eq]
  generalize (lg_sl ([.ref (ad 10)]) ++ List.replicate (6 - (lg_sl ([.ref (ad 10)])).length) Slot.unset).toArray = ls at hl ⊢
  have hl : lv_has ls 6 [(0, .ref (ad 10))] := hl
  have hG := g_GR_nextInfo.eq_1 M
  refine lv_aload_n hx hb d_GR_nextInfo_0 rfl (lv_at hl 0 rfl) ?_
  refine gg_GR (k := 0) (v := .ref (ad 11)) hx hb hts hown hK hP  (hts _ (List.mem_cons_of_mem _ tw_173)) (by decide) rfl rfl d_GR_nextInfo_1 ?_
  refine gg_GFN (k := 9) (v := .int (M.1 11 9)) hx hb hts hown hK hP  (hN.f 5 rfl) (by decide) rfl rfl d_GR_nextInfo_4 ?_
  refine lv_if_eq (tgt := 18) hx hb d_GR_nextInfo_7 (by decide) (fun h_1 => ?_) (fun h_1 => ?_)
  ·
    have hG := hG.trans (if_pos h_1)
    refine lv_aload_n hx hb d_GR_nextInfo_18 rfl (lv_at hl 0 rfl) ?_
    refine gg_GR (k := 0) (v := .ref (ad 11)) hx hb hts hown hK hP  (hts _ (List.mem_cons_of_mem _ tw_173)) (by decide) rfl rfl d_GR_nextInfo_19 ?_
    have hP : va_P D cls (fl_w ad (xc ad cA) 88 (pGF M (M.1 11) (M.1 13) (M.2 12))) s.heap := by rw [id_GF]; exact hP
    refine fl_calll (va_runV (As := []) (rest := []) ⟨hx, hb, hml, hown, hts⟩ (c_GF_sendMarked l hi M (M.1 11) (M.1 13) (M.2 12) (hu)) (kv_GF_sendMarked hts (hts _ (List.mem_cons_of_mem _ tw_650)) ⟨Nat.le_of_ble_eq_true rfl, Nat.le_of_ble_eq_true rfl⟩) (fl_preV hK hSt hN hS hP (by decide) (kc_GF) rfl) rfl rfl hl.1 rfl (lv_room (Nat.le_of_ble_eq_true rfl)) d_GR_nextInfo_22 ⟨Nat.zero_le _, Nat.zero_le _⟩) hS (fun H locs hP hS => ?_)
    refine lv_lstore_n (lv' := [(1, .long ((g_GF_sendMarked (M.1 11) (M.1 13) (M.2 12)).1)), (0, .ref (ad 10))]) hx hb d_GR_nextInfo_25 rfl hl (by decide) rfl (fun ls hl => ?_)
    refine lv_lload_n hx hb d_GR_nextInfo_26 rfl (lv_at hl 0 rfl) ?_
    refine lv_ldc2 (v := -1) hx hb hown (hts _ (List.mem_cons_of_mem _ tw_572)) d_GR_nextInfo_27 ?_
    refine W.lcmp hx hb d_GR_nextInfo_30 ?_
    refine lv_if_eq (tgt := 36) hx hb d_GR_nextInfo_31 (by decide) (fun h_2 => ?_) (fun h_2 => ?_)
    ·
      have hG := hG.trans (if_pos h_2)
      refine lv_aload_n hx hb d_GR_nextInfo_36 rfl (lv_at hl 1 rfl) ?_
      refine gg_GR (k := 0) (v := .ref (ad 11)) hx hb hts hown hK hP  (hts _ (List.mem_cons_of_mem _ tw_173)) (by decide) rfl rfl d_GR_nextInfo_37 ?_
      have hP : va_P D cls (fl_w ad (xc ad cA) 88 (pGF (pGF M ((g_GF_sendMarked (M.1 11) (M.1 13) (M.2 12)).2.1) ((g_GF_sendMarked (M.1 11) (M.1 13) (M.2 12)).2.2.1) ((g_GF_sendMarked (M.1 11) (M.1 13) (M.2 12)).2.2.2)) ((pGF M ((g_GF_sendMarked (M.1 11) (M.1 13) (M.2 12)).2.1) ((g_GF_sendMarked (M.1 11) (M.1 13) (M.2 12)).2.2.1) ((g_GF_sendMarked (M.1 11) (M.1 13) (M.2 12)).2.2.2)).1 11) ((pGF M ((g_GF_sendMarked (M.1 11) (M.1 13) (M.2 12)).2.1) ((g_GF_sendMarked (M.1 11) (M.1 13) (M.2 12)).2.2.1) ((g_GF_sendMarked (M.1 11) (M.1 13) (M.2 12)).2.2.2)).1 13) ((pGF M ((g_GF_sendMarked (M.1 11) (M.1 13) (M.2 12)).2.1) ((g_GF_sendMarked (M.1 11) (M.1 13) (M.2 12)).2.2.1) ((g_GF_sendMarked (M.1 11) (M.1 13) (M.2 12)).2.2.2)).2 12))) H := by rw [id_GF]; exact hP
      refine fl_calli (va_runV (As := []) (rest := []) ⟨hx, hb, hml, hown, hts⟩ (c_GF_hasRoom l hi (pGF M ((g_GF_sendMarked (M.1 11) (M.1 13) (M.2 12)).2.1) ((g_GF_sendMarked (M.1 11) (M.1 13) (M.2 12)).2.2.1) ((g_GF_sendMarked (M.1 11) (M.1 13) (M.2 12)).2.2.2)) ((pGF M ((g_GF_sendMarked (M.1 11) (M.1 13) (M.2 12)).2.1) ((g_GF_sendMarked (M.1 11) (M.1 13) (M.2 12)).2.2.1) ((g_GF_sendMarked (M.1 11) (M.1 13) (M.2 12)).2.2.2)).1 11) ((pGF M ((g_GF_sendMarked (M.1 11) (M.1 13) (M.2 12)).2.1) ((g_GF_sendMarked (M.1 11) (M.1 13) (M.2 12)).2.2.1) ((g_GF_sendMarked (M.1 11) (M.1 13) (M.2 12)).2.2.2)).1 13) ((pGF M ((g_GF_sendMarked (M.1 11) (M.1 13) (M.2 12)).2.1) ((g_GF_sendMarked (M.1 11) (M.1 13) (M.2 12)).2.2.1) ((g_GF_sendMarked (M.1 11) (M.1 13) (M.2 12)).2.2.2)).2 12)) (kv_GF_hasRoom hts (hts _ (List.mem_cons_of_mem _ tw_655)) ⟨Nat.le_of_ble_eq_true rfl, Nat.le_of_ble_eq_true rfl⟩) (fl_preV hK hSt hN hS hP (by decide) (kc_GF) rfl) rfl rfl hl.1 rfl (lv_room (Nat.le_of_ble_eq_true rfl)) d_GR_nextInfo_40 ⟨Nat.zero_le _, Nat.zero_le _⟩) hS (fun H locs hP hS => ?_)
      have hP : va_P D cls (fl_w ad (xc ad cA) 88 (pGF M ((g_GF_sendMarked (M.1 11) (M.1 13) (M.2 12)).2.1) ((g_GF_sendMarked (M.1 11) (M.1 13) (M.2 12)).2.2.1) ((g_GF_sendMarked (M.1 11) (M.1 13) (M.2 12)).2.2.2))) H := by rw [id_GF] at hP; exact hP
      refine lv_istore_n (lv' := [(3, .int (g_GF_hasRoom ((pGF M ((g_GF_sendMarked (M.1 11) (M.1 13) (M.2 12)).2.1) ((g_GF_sendMarked (M.1 11) (M.1 13) (M.2 12)).2.2.1) ((g_GF_sendMarked (M.1 11) (M.1 13) (M.2 12)).2.2.2)).1 11) ((pGF M ((g_GF_sendMarked (M.1 11) (M.1 13) (M.2 12)).2.1) ((g_GF_sendMarked (M.1 11) (M.1 13) (M.2 12)).2.2.1) ((g_GF_sendMarked (M.1 11) (M.1 13) (M.2 12)).2.2.2)).1 13) ((pGF M ((g_GF_sendMarked (M.1 11) (M.1 13) (M.2 12)).2.1) ((g_GF_sendMarked (M.1 11) (M.1 13) (M.2 12)).2.2.1) ((g_GF_sendMarked (M.1 11) (M.1 13) (M.2 12)).2.2.2)).2 12))), (1, .long ((g_GF_sendMarked (M.1 11) (M.1 13) (M.2 12)).1)), (0, .ref (ad 10))]) hx hb d_GR_nextInfo_43 rfl hl (by decide) rfl (fun ls hl => ?_)
      refine lv_iconst (v := 0) hx hb d_GR_nextInfo_44 (by decide) ?_
      refine lv_istore (lv' := [(4, .int 0), (3, .int (g_GF_hasRoom ((pGF M ((g_GF_sendMarked (M.1 11) (M.1 13) (M.2 12)).2.1) ((g_GF_sendMarked (M.1 11) (M.1 13) (M.2 12)).2.2.1) ((g_GF_sendMarked (M.1 11) (M.1 13) (M.2 12)).2.2.2)).1 11) ((pGF M ((g_GF_sendMarked (M.1 11) (M.1 13) (M.2 12)).2.1) ((g_GF_sendMarked (M.1 11) (M.1 13) (M.2 12)).2.2.1) ((g_GF_sendMarked (M.1 11) (M.1 13) (M.2 12)).2.2.2)).1 13) ((pGF M ((g_GF_sendMarked (M.1 11) (M.1 13) (M.2 12)).2.1) ((g_GF_sendMarked (M.1 11) (M.1 13) (M.2 12)).2.2.1) ((g_GF_sendMarked (M.1 11) (M.1 13) (M.2 12)).2.2.2)).2 12))), (1, .long ((g_GF_sendMarked (M.1 11) (M.1 13) (M.2 12)).1)), (0, .ref (ad 10))]) hx hb d_GR_nextInfo_45 hl (by decide) rfl (fun ls hl => ?_)
      have lp_47 : ∀ (k_47 : Nat) (i_47 : Nat) (rm : Int32) (M1 : fl_M) (ls : Array Slot) (H : Heap) (locs : List Loc), i_47 + k_47 = (M.1 10 2).toNatClampNeg → M1.1 10 2 = M.1 10 2 ∧ vp_in (M1.1 11 4) 16 → lv_has ls 6 [(0, .ref (ad 10)), (3, .int rm), (4, .int (nI i_47))] → va_P D cls (fl_w ad (xc ad cA) 88 M1) H → va_S (fl_A ad 88) s.heap H locs → g_GR_nextInfo M = g_GR_nextInfo_L47  k_47 i_47 rm M1 → W p l e (headSpec w_GR_nextInfo ({ frames := 2, cells := 0, slots := 0, locals := 46 } : Room)).room s m ([.ref (ad 10)] : List Value).toArray below meth c H locs 0 0 (MQ below (va_Ql (fun r M' => r = (g_GR_nextInfo M).1 ∧ M' = ((g_GR_nextInfo M).2)) (fl_E D cls ad (xc ad cA) 88) (fl_A ad 88)) ([.ref (ad 10)] : List Value).toArray s 0 0 (fl_A ad 88)) (F0 m 47 ls []) := by
        intro k_47
        induction k_47 with
        | zero =>
          intro i_47 rm M1 ls H locs hbd hI hl hP hS hG
          have hG := hG.trans (g_GR_nextInfo_L47.eq_1 ..)
          refine lv_iload hx hb d_GR_nextInfo_47 (lv_at hl 2 rfl) ?_
          refine lv_aload_n hx hb d_GR_nextInfo_49 rfl (lv_at hl 0 rfl) ?_
          refine gg_GR (k := 2) (v := .int (M1.1 10 2)) hx hb hts hown hK hP  (hts _ (List.mem_cons_of_mem _ tw_177)) (by decide) rfl rfl d_GR_nextInfo_50 ?_
          refine lv_icmp_ge (tgt := 122) hx hb d_GR_nextInfo_53 (by decide) (fun _ => ?_) (fun h_3 => absurd (fl_le (b := (M.1 10 2).toNatClampNeg) (hI.1.trans hbg) (by omega) (by omega)) h_3)
          refine lv_ldc2 (v := -1) hx hb hown (hts _ (List.mem_cons_of_mem _ tw_572)) d_GR_nextInfo_122 ?_
          exact fl_lret hx hb hr hlocks hP hS (congrArg Prod.fst hG).symm (by rw [hG]) d_GR_nextInfo_125
        | succ k_47 ih_47 =>
          intro i_47 rm M1 ls H locs hbd hI hl hP hS hG
          have hG := hG.trans (g_GR_nextInfo_L47.eq_2 ..)
          refine lv_iload hx hb d_GR_nextInfo_47 (lv_at hl 2 rfl) ?_
          refine lv_aload_n hx hb d_GR_nextInfo_49 rfl (lv_at hl 0 rfl) ?_
          refine gg_GR (k := 2) (v := .int (M1.1 10 2)) hx hb hts hown hK hP  (hts _ (List.mem_cons_of_mem _ tw_177)) (by decide) rfl rfl d_GR_nextInfo_50 ?_
          refine lv_icmp_ge (tgt := 122) hx hb d_GR_nextInfo_53 (by decide) (fun h_4 => absurd h_4 (fl_nle (b := (M.1 10 2).toNatClampNeg) (hI.1.trans hbg) (by omega) (by omega))) (fun _ => ?_)
          refine lv_aload_n hx hb d_GR_nextInfo_56 rfl (lv_at hl 0 rfl) ?_
          refine gg_GR (k := 1) (v := .ref (ad 14)) hx hb hts hown hK hP  (hts _ (List.mem_cons_of_mem _ tw_175)) (by decide) rfl rfl d_GR_nextInfo_57 ?_
          refine lv_iload hx hb d_GR_nextInfo_60 (lv_at hl 2 rfl) ?_
          have hs_5 : vp_in (nI i_47) 16 := vp_in_nI (by omega) (by decide)
          refine ar_TRS hx hb hK hP hs_5 d_GR_nextInfo_62 ?_
          refine lv_astore (lv' := [(5, .ref (ad (24 + 2 * (nI i_47).toNatClampNeg))), (0, .ref (ad 10)), (3, .int rm), (4, .int (nI i_47))]) hx hb d_GR_nextInfo_63 hl (by decide) rfl (fun ls hl => ?_)
          refine lv_aload hx hb d_GR_nextInfo_65 (lv_at hl 0 rfl) ?_
          have hP : va_P D cls (fl_w ad (xc ad cA) 88 (pTR M1 (24 + 2 * (nI i_47).toNatClampNeg) (M1.1 (24 + 2 * (nI i_47).toNatClampNeg)) (M1.1 ((24 + 2 * (nI i_47).toNatClampNeg) + 1)))) H := by rw [id_TR]; exact hP
          refine fl_calli (va_runV (As := []) (rest := []) ⟨hx, hb, hml, hown, hts⟩ (c_TR_hasToSend l hi (is_TRof hs_5) M1 (M1.1 (24 + 2 * (nI i_47).toNatClampNeg)) (M1.1 ((24 + 2 * (nI i_47).toNatClampNeg) + 1))) (kv_TR_hasToSend hts (hts _ (List.mem_cons_of_mem _ tw_659)) ⟨Nat.le_of_ble_eq_true rfl, Nat.le_of_ble_eq_true rfl⟩) (fl_preV hK hSt hN hS hP (lt_TR (is_TRof hs_5)) (kc_TR (is_TRof hs_5)) rfl) rfl rfl hl.1 rfl (lv_room (Nat.le_of_ble_eq_true rfl)) d_GR_nextInfo_67 ⟨Nat.zero_le _, Nat.zero_le _⟩) hS (fun H locs hP hS => ?_)
          have hP : va_P D cls (fl_w ad (xc ad cA) 88 M1) H := by rw [id_TR] at hP; exact hP
          refine lv_if_eq (tgt := 91) hx hb d_GR_nextInfo_70 (by decide) (fun h_6 => ?_) (fun h_6 => ?_)
          ·
            have hG := hG.trans (if_pos h_6)
            refine lv_aload hx hb d_GR_nextInfo_91 (lv_at hl 0 rfl) ?_
            have hP : va_P D cls (fl_w ad (xc ad cA) 88 (pTR M1 (24 + 2 * (nI i_47).toNatClampNeg) (M1.1 (24 + 2 * (nI i_47).toNatClampNeg)) (M1.1 ((24 + 2 * (nI i_47).toNatClampNeg) + 1)))) H := by rw [id_TR]; exact hP
            refine fl_calli (va_runV (As := []) (rest := []) ⟨hx, hb, hml, hown, hts⟩ (c_TR_hasToSend l hi (is_TRof hs_5) M1 (M1.1 (24 + 2 * (nI i_47).toNatClampNeg)) (M1.1 ((24 + 2 * (nI i_47).toNatClampNeg) + 1))) (kv_TR_hasToSend hts (hts _ (List.mem_cons_of_mem _ tw_659)) ⟨Nat.le_of_ble_eq_true rfl, Nat.le_of_ble_eq_true rfl⟩) (fl_preV hK hSt hN hS hP (lt_TR (is_TRof hs_5)) (kc_TR (is_TRof hs_5)) rfl) rfl rfl hl.1 rfl (lv_room (Nat.le_of_ble_eq_true rfl)) d_GR_nextInfo_93 ⟨Nat.zero_le _, Nat.zero_le _⟩) hS (fun H locs hP hS => ?_)
            have hP : va_P D cls (fl_w ad (xc ad cA) 88 M1) H := by rw [id_TR] at hP; exact hP
            refine lv_if_eq (tgt := 116) hx hb d_GR_nextInfo_96 (by decide) (fun _ => ?_) (fun h_7 => absurd (h_6) h_7)
            refine lv_iinc (k := 3) (v := nI (i_47 + 1)) (lv' := [(4, .int (nI (i_47 + 1))), (5, .ref (ad (24 + 2 * (nI i_47).toNatClampNeg))), (0, .ref (ad 10)), (3, .int rm)]) hx hb d_GR_nextInfo_116 hl rfl (fl_inc _) (by decide) rfl (fun ls hl => ?_)
            refine lv_goto (tgt := 47) hx hb d_GR_nextInfo_119 (by decide) ?_
            have hl := lv_sub (l' := [(0, .ref (ad 10)), (3, .int rm), (4, .int (nI (i_47 + 1)))]) hl [2, 3, 0] rfl
            exact ih_47 (i_47 + 1) rm M1 ls _ _ (by omega) (hI) hl hP hS hG
          ·
            have hG := hG.trans (if_neg h_6)
            refine lv_aload hx hb d_GR_nextInfo_73 (lv_at hl 0 rfl) ?_
            refine gg_TRN (k := 5) (v := .int (M1.1 (24 + 2 * (nI i_47).toNatClampNeg) 5)) hx hb hts hown hK hP (is_TRof hs_5) (hN.f 6 rfl) (by decide) rfl rfl d_GR_nextInfo_75 ?_
            refine lv_if_eq (tgt := 91) hx hb d_GR_nextInfo_78 (by decide) (fun h_8 => ?_) (fun h_8 => ?_)
            ·
              have hG := hG.trans (if_pos h_8)
              refine lv_aload hx hb d_GR_nextInfo_91 (lv_at hl 0 rfl) ?_
              have hP : va_P D cls (fl_w ad (xc ad cA) 88 (pTR M1 (24 + 2 * (nI i_47).toNatClampNeg) (M1.1 (24 + 2 * (nI i_47).toNatClampNeg)) (M1.1 ((24 + 2 * (nI i_47).toNatClampNeg) + 1)))) H := by rw [id_TR]; exact hP
              refine fl_calli (va_runV (As := []) (rest := []) ⟨hx, hb, hml, hown, hts⟩ (c_TR_hasToSend l hi (is_TRof hs_5) M1 (M1.1 (24 + 2 * (nI i_47).toNatClampNeg)) (M1.1 ((24 + 2 * (nI i_47).toNatClampNeg) + 1))) (kv_TR_hasToSend hts (hts _ (List.mem_cons_of_mem _ tw_659)) ⟨Nat.le_of_ble_eq_true rfl, Nat.le_of_ble_eq_true rfl⟩) (fl_preV hK hSt hN hS hP (lt_TR (is_TRof hs_5)) (kc_TR (is_TRof hs_5)) rfl) rfl rfl hl.1 rfl (lv_room (Nat.le_of_ble_eq_true rfl)) d_GR_nextInfo_93 ⟨Nat.zero_le _, Nat.zero_le _⟩) hS (fun H locs hP hS => ?_)
              have hP : va_P D cls (fl_w ad (xc ad cA) 88 M1) H := by rw [id_TR] at hP; exact hP
              refine lv_if_eq (tgt := 116) hx hb d_GR_nextInfo_96 (by decide) (fun h_9 => absurd h_9 (h_6)) (fun _ => ?_)
              refine lv_iload_n hx hb d_GR_nextInfo_99 rfl (lv_at hl 2 rfl) ?_
              refine lv_if_eq (tgt := 116) hx hb d_GR_nextInfo_100 (by decide) (fun h_10 => ?_) (fun h_10 => ?_)
              ·
                have hG := hG.trans (if_pos h_10)
                refine lv_iinc (k := 3) (v := nI (i_47 + 1)) (lv' := [(4, .int (nI (i_47 + 1))), (5, .ref (ad (24 + 2 * (nI i_47).toNatClampNeg))), (0, .ref (ad 10)), (3, .int rm)]) hx hb d_GR_nextInfo_116 hl rfl (fl_inc _) (by decide) rfl (fun ls hl => ?_)
                refine lv_goto (tgt := 47) hx hb d_GR_nextInfo_119 (by decide) ?_
                have hl := lv_sub (l' := [(0, .ref (ad 10)), (3, .int rm), (4, .int (nI (i_47 + 1)))]) hl [2, 3, 0] rfl
                exact ih_47 (i_47 + 1) rm M1 ls _ _ (by omega) (hI) hl hP hS hG
              ·
                have hG := hG.trans (if_neg h_10)
                refine lv_aload_n hx hb d_GR_nextInfo_103 rfl (lv_at hl 1 rfl) ?_
                refine gg_GR (k := 0) (v := .ref (ad 11)) hx hb hts hown hK hP  (hts _ (List.mem_cons_of_mem _ tw_173)) (by decide) rfl rfl d_GR_nextInfo_104 ?_
                refine lv_aload hx hb d_GR_nextInfo_107 (lv_at hl 0 rfl) ?_
                have hP : va_P D cls (fl_w ad (xc ad cA) 88 (pTR M1 (24 + 2 * (nI i_47).toNatClampNeg) (M1.1 (24 + 2 * (nI i_47).toNatClampNeg)) (M1.1 ((24 + 2 * (nI i_47).toNatClampNeg) + 1)))) H := by rw [id_TR]; exact hP
                refine fl_calll (va_runV (As := []) (rest := [.ref (ad 11)]) ⟨hx, hb, hml, hown, hts⟩ (c_TR_nextPdu l hi (is_TRof hs_5) M1 (M1.1 (24 + 2 * (nI i_47).toNatClampNeg)) (M1.1 ((24 + 2 * (nI i_47).toNatClampNeg) + 1))) (kv_TR_nextPdu hts (hts _ (List.mem_cons_of_mem _ tw_664)) ⟨Nat.le_of_ble_eq_true rfl, Nat.le_of_ble_eq_true rfl⟩) (fl_preV hK hSt hN hS hP (lt_TR (is_TRof hs_5)) (kc_TR (is_TRof hs_5)) rfl) rfl rfl hl.1 rfl (lv_room (Nat.le_of_ble_eq_true rfl)) d_GR_nextInfo_109 ⟨Nat.zero_le _, Nat.zero_le _⟩) hS (fun H locs hP hS => ?_)
                have hP : va_P D cls (fl_w ad (xc ad cA) 88 (pGF (pTR M1 (24 + 2 * (nI i_47).toNatClampNeg) ((g_TR_nextPdu (M1.1 (24 + 2 * (nI i_47).toNatClampNeg)) (M1.1 ((24 + 2 * (nI i_47).toNatClampNeg) + 1))).2.1) ((g_TR_nextPdu (M1.1 (24 + 2 * (nI i_47).toNatClampNeg)) (M1.1 ((24 + 2 * (nI i_47).toNatClampNeg) + 1))).2.2)) ((pTR M1 (24 + 2 * (nI i_47).toNatClampNeg) ((g_TR_nextPdu (M1.1 (24 + 2 * (nI i_47).toNatClampNeg)) (M1.1 ((24 + 2 * (nI i_47).toNatClampNeg) + 1))).2.1) ((g_TR_nextPdu (M1.1 (24 + 2 * (nI i_47).toNatClampNeg)) (M1.1 ((24 + 2 * (nI i_47).toNatClampNeg) + 1))).2.2)).1 11) ((pTR M1 (24 + 2 * (nI i_47).toNatClampNeg) ((g_TR_nextPdu (M1.1 (24 + 2 * (nI i_47).toNatClampNeg)) (M1.1 ((24 + 2 * (nI i_47).toNatClampNeg) + 1))).2.1) ((g_TR_nextPdu (M1.1 (24 + 2 * (nI i_47).toNatClampNeg)) (M1.1 ((24 + 2 * (nI i_47).toNatClampNeg) + 1))).2.2)).1 13) ((pTR M1 (24 + 2 * (nI i_47).toNatClampNeg) ((g_TR_nextPdu (M1.1 (24 + 2 * (nI i_47).toNatClampNeg)) (M1.1 ((24 + 2 * (nI i_47).toNatClampNeg) + 1))).2.1) ((g_TR_nextPdu (M1.1 (24 + 2 * (nI i_47).toNatClampNeg)) (M1.1 ((24 + 2 * (nI i_47).toNatClampNeg) + 1))).2.2)).2 12))) H := by rw [id_GF]; exact hP
                refine fl_calll (va_runV (As := [.long ((g_TR_nextPdu (M1.1 (24 + 2 * (nI i_47).toNatClampNeg)) (M1.1 ((24 + 2 * (nI i_47).toNatClampNeg) + 1))).1)]) (rest := []) ⟨hx, hb, hml, hown, hts⟩ (c_GF_sendInOrder l hi (pTR M1 (24 + 2 * (nI i_47).toNatClampNeg) ((g_TR_nextPdu (M1.1 (24 + 2 * (nI i_47).toNatClampNeg)) (M1.1 ((24 + 2 * (nI i_47).toNatClampNeg) + 1))).2.1) ((g_TR_nextPdu (M1.1 (24 + 2 * (nI i_47).toNatClampNeg)) (M1.1 ((24 + 2 * (nI i_47).toNatClampNeg) + 1))).2.2)) ((pTR M1 (24 + 2 * (nI i_47).toNatClampNeg) ((g_TR_nextPdu (M1.1 (24 + 2 * (nI i_47).toNatClampNeg)) (M1.1 ((24 + 2 * (nI i_47).toNatClampNeg) + 1))).2.1) ((g_TR_nextPdu (M1.1 (24 + 2 * (nI i_47).toNatClampNeg)) (M1.1 ((24 + 2 * (nI i_47).toNatClampNeg) + 1))).2.2)).1 11) ((pTR M1 (24 + 2 * (nI i_47).toNatClampNeg) ((g_TR_nextPdu (M1.1 (24 + 2 * (nI i_47).toNatClampNeg)) (M1.1 ((24 + 2 * (nI i_47).toNatClampNeg) + 1))).2.1) ((g_TR_nextPdu (M1.1 (24 + 2 * (nI i_47).toNatClampNeg)) (M1.1 ((24 + 2 * (nI i_47).toNatClampNeg) + 1))).2.2)).1 13) ((pTR M1 (24 + 2 * (nI i_47).toNatClampNeg) ((g_TR_nextPdu (M1.1 (24 + 2 * (nI i_47).toNatClampNeg)) (M1.1 ((24 + 2 * (nI i_47).toNatClampNeg) + 1))).2.1) ((g_TR_nextPdu (M1.1 (24 + 2 * (nI i_47).toNatClampNeg)) (M1.1 ((24 + 2 * (nI i_47).toNatClampNeg) + 1))).2.2)).2 12) ((g_TR_nextPdu (M1.1 (24 + 2 * (nI i_47).toNatClampNeg)) (M1.1 ((24 + 2 * (nI i_47).toNatClampNeg) + 1))).1) (by rw [nb_TR (by omega) (by omega)]; exact hI.2)) (kv_GF_sendInOrder hts (hts _ (List.mem_cons_of_mem _ tw_681)) ⟨Nat.le_of_ble_eq_true rfl, Nat.le_of_ble_eq_true rfl⟩) (fl_preV hK hSt hN hS hP (by decide) (kc_GF) rfl) rfl rfl hl.1 rfl (lv_room (Nat.le_of_ble_eq_true rfl)) d_GR_nextInfo_112 ⟨Nat.zero_le _, Nat.zero_le _⟩) hS (fun H locs hP hS => ?_)
                exact fl_lret hx hb hr hlocks hP hS (congrArg Prod.fst hG).symm (by rw [hG]) d_GR_nextInfo_115
            ·
              have hG := hG.trans (if_neg h_8)
              refine lv_ldc2 (v := 4503599627370496) hx hb hown (hts _ (List.mem_cons_of_mem _ tw_663)) d_GR_nextInfo_81 ?_
              refine lv_aload hx hb d_GR_nextInfo_84 (lv_at hl 0 rfl) ?_
              have hP : va_P D cls (fl_w ad (xc ad cA) 88 (pTR M1 (24 + 2 * (nI i_47).toNatClampNeg) (M1.1 (24 + 2 * (nI i_47).toNatClampNeg)) (M1.1 ((24 + 2 * (nI i_47).toNatClampNeg) + 1)))) H := by rw [id_TR]; exact hP
              refine fl_calll (va_runV (As := []) (rest := [.long 4503599627370496]) ⟨hx, hb, hml, hown, hts⟩ (c_TR_nextPdu l hi (is_TRof hs_5) M1 (M1.1 (24 + 2 * (nI i_47).toNatClampNeg)) (M1.1 ((24 + 2 * (nI i_47).toNatClampNeg) + 1))) (kv_TR_nextPdu hts (hts _ (List.mem_cons_of_mem _ tw_664)) ⟨Nat.le_of_ble_eq_true rfl, Nat.le_of_ble_eq_true rfl⟩) (fl_preV hK hSt hN hS hP (lt_TR (is_TRof hs_5)) (kc_TR (is_TRof hs_5)) rfl) rfl rfl hl.1 rfl (lv_room (Nat.le_of_ble_eq_true rfl)) d_GR_nextInfo_86 ⟨Nat.zero_le _, Nat.zero_le _⟩) hS (fun H locs hP hS => ?_)
              refine lv_lor hx hb d_GR_nextInfo_89 ?_
              exact fl_lret hx hb hr hlocks hP hS (congrArg Prod.fst hG).symm (by rw [hG]) d_GR_nextInfo_90
      have hl := lv_sub (l' := [(0, .ref (ad 10)), (3, .int (g_GF_hasRoom ((pGF M ((g_GF_sendMarked (M.1 11) (M.1 13) (M.2 12)).2.1) ((g_GF_sendMarked (M.1 11) (M.1 13) (M.2 12)).2.2.1) ((g_GF_sendMarked (M.1 11) (M.1 13) (M.2 12)).2.2.2)).1 11) ((pGF M ((g_GF_sendMarked (M.1 11) (M.1 13) (M.2 12)).2.1) ((g_GF_sendMarked (M.1 11) (M.1 13) (M.2 12)).2.2.1) ((g_GF_sendMarked (M.1 11) (M.1 13) (M.2 12)).2.2.2)).1 13) ((pGF M ((g_GF_sendMarked (M.1 11) (M.1 13) (M.2 12)).2.1) ((g_GF_sendMarked (M.1 11) (M.1 13) (M.2 12)).2.2.1) ((g_GF_sendMarked (M.1 11) (M.1 13) (M.2 12)).2.2.2)).2 12))), (4, .int (nI 0))]) hl [3, 1, 0] rfl
      exact lp_47 ((M.1 10 2).toNatClampNeg) 0 (g_GF_hasRoom ((pGF M ((g_GF_sendMarked (M.1 11) (M.1 13) (M.2 12)).2.1) ((g_GF_sendMarked (M.1 11) (M.1 13) (M.2 12)).2.2.1) ((g_GF_sendMarked (M.1 11) (M.1 13) (M.2 12)).2.2.2)).1 11) ((pGF M ((g_GF_sendMarked (M.1 11) (M.1 13) (M.2 12)).2.1) ((g_GF_sendMarked (M.1 11) (M.1 13) (M.2 12)).2.2.1) ((g_GF_sendMarked (M.1 11) (M.1 13) (M.2 12)).2.2.2)).1 13) ((pGF M ((g_GF_sendMarked (M.1 11) (M.1 13) (M.2 12)).2.1) ((g_GF_sendMarked (M.1 11) (M.1 13) (M.2 12)).2.2.1) ((g_GF_sendMarked (M.1 11) (M.1 13) (M.2 12)).2.2.2)).2 12)) (pGF M ((g_GF_sendMarked (M.1 11) (M.1 13) (M.2 12)).2.1) ((g_GF_sendMarked (M.1 11) (M.1 13) (M.2 12)).2.2.1) ((g_GF_sendMarked (M.1 11) (M.1 13) (M.2 12)).2.2.2)) ls _ _ (by omega) (⟨rfl, sm_in hn⟩) hl hP hS hG
    ·
      have hG := hG.trans (if_neg h_2)
      refine lv_lload_n hx hb d_GR_nextInfo_34 rfl (lv_at hl 0 rfl) ?_
      exact fl_lret hx hb hr hlocks hP hS (congrArg Prod.fst hG).symm (by rw [hG]) d_GR_nextInfo_35
  ·
    have hG := hG.trans (if_neg h_1)
    refine lv_aload_n hx hb d_GR_nextInfo_10 rfl (lv_at hl 0 rfl) ?_
    refine gg_GR (k := 0) (v := .ref (ad 11)) hx hb hts hown hK hP  (hts _ (List.mem_cons_of_mem _ tw_173)) (by decide) rfl rfl d_GR_nextInfo_11 ?_
    have hP : va_P D cls (fl_w ad (xc ad cA) 88 (pGF M (M.1 11) (M.1 13) (M.2 12))) s.heap := by rw [id_GF]; exact hP
    refine fl_calll (va_runV (As := []) (rest := []) ⟨hx, hb, hml, hown, hts⟩ (c_GF_sendDirective l hi M (M.1 11) (M.1 13) (M.2 12)) (kv_GF_sendDirective hts (hts _ (List.mem_cons_of_mem _ tw_644)) ⟨Nat.le_of_ble_eq_true rfl, Nat.le_of_ble_eq_true rfl⟩) (fl_preV hK hSt hN hS hP (by decide) (kc_GF) rfl) rfl rfl hl.1 rfl (lv_room (Nat.le_of_ble_eq_true rfl)) d_GR_nextInfo_14 ⟨Nat.zero_le _, Nat.zero_le _⟩) hS (fun H locs hP hS => ?_)
    exact fl_lret hx hb hr hlocks hP hS (congrArg Prod.fst hG).symm (by rw [hG]) d_GR_nextInfo_17
theorem hd_GR_nextInfo : y_GR_nextInfo.cls ≠ "java/lang/invoke/MethodHandle" ∧ y_GR_nextInfo.cls ≠ "java/lang/invoke/VarHandle" ∧ (parseMethodDescriptor y_GR_nextInfo.desc).map (fun d => d.parameters.length) = some 0 := by decide +kernel
theorem kv_GR_nextInfo {R : Room} {s : State} {args : Array Value} {c0 : Cond} {own : String} {index : Nat} (hts : ∀ w ∈ c0 :: gw, w.before args s = true) (hl : (Cond.methodLink own index y_GR_nextInfo).before args s = true) (hR : 2 + 1 ≤ R.frames ∧ 8 + (6 + 11) + 46 ≤ R.locals) : CallW R s args own "FarLink$Ground" index y_GR_nextInfo b_GR_nextInfo 6 (some .long) w_GR_nextInfo ({ frames := 2, cells := 0, slots := 0, locals := 46 } : Room) 0 0 0 := ⟨callB_of 0 hts (gw_in tw_643) rfl rfl rfl (hts _ (List.mem_cons_of_mem _ tw_4)) hl hd_GR_nextInfo hR, hts _ (List.mem_cons_of_mem _ tw_641), hts _ (List.mem_cons_of_mem _ tw_642)⟩
