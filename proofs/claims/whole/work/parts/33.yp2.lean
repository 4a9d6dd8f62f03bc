/-! contracts of the reference: 33.yp2 -/
def g_MD_cancel (M : fl_M) (x1 : Int32) : Int32 × fl_M :=
  if (g_MD_running M x1) = 0 then ((0, M)) else (if (M.1 16 x1.toNatClampNeg) = 0 then ((1, (fl_i (fl_i (g_MD_makeEndDue (fl_i (fl_i M 16 x1.toNatClampNeg 1) 15 x1.toNatClampNeg 0) x1) 20 x1.toNatClampNeg 1) 17 x1.toNatClampNeg 0))) else ((0, M)))
set_option maxHeartbeats 400000 in
set_option maxRecDepth 100000 in
theorem c_MD_cancel (l : Launch) {D : va_G} {ad : Nat → Nat} {cA : Nat → ClassId} (hi : fl_inj ad 41) (M : fl_M) (x1 : Int32) (hbg : nn (M.1 0 13)) (hb16 : (M.1 0 13).toNatClampNeg ≤ 16) : Met l y_MD_cancel w_MD_cancel ({ frames := 1, cells := 0, slots := 0, locals := 21 } : Room) (va_Pc [.ref (ad 0), .int x1] (fl_B D cls (yt cA) ([] : fl_L) ([] : fl_FN) ([] : fl_MN) ad (yc ad cA) 41 M)) (va_Qi (fun r M' => r = (g_MD_cancel M x1).1 ∧ M' = ((g_MD_cancel M x1).2)) (fl_E D cls ad (yc ad cA) 41) (fl_A ad 41)) 0 0 (fl_A ad 41) := by
  refine Met.ofW (cc := b_MD_cancel) (maxL := 2) (ret := (some .boolean)) (by decide) rfl ?_
  intro p e s m args below meth c s₁ B hml hv
  obtain ⟨rfl, hP, hK, hSt, hN⟩ := hv
  have hx := B.exec
  have hb := B.bytes
  have hr := B.returns
  have hts := atoms_spec (ws := w_MD_cancel) B.pre
  have hown : s.vm.findClass "FarLinkModel" = some m.cls := findClass_of_methodNamed B.named
  have hlocks := B.notSynchronized
  have hS : va_S (fl_A ad 41) s.heap s.heap [] := va_S.rf
  have hl := lv_entry ([.ref (ad 0), .int x1]) (n := 2) (Nat.le_of_ble_eq_true rfl)
  rw [lg_entry_eq]
  generalize (lg_sl ([.ref (ad 0), .int x1]) ++ List.replicate (2 - (lg_sl ([.ref (ad 0), .int x1])).length) Slot.unset).toArray = ls at hl ⊢
  have hl : lv_has ls 2 [(0, .ref (ad 0)), (1, .int x1)] := hl
  have hG := g_MD_cancel.eq_1 M x1
  refine lv_aload_n hx hb d_MD_cancel_0 rfl (lv_at hl 0 rfl) ?_
  refine lv_iload_n hx hb d_MD_cancel_1 rfl (lv_at hl 1 rfl) ?_
  refine fl_calli (va_runV (As := [.int x1]) (rest := []) ⟨hx, hb, hml, hown, hts⟩ (c_MD_running l hi M x1 (by assumption) (by assumption)) (kv_MD_running hts (hts _ (List.mem_cons_of_mem _ tw_1003)) ⟨Nat.le_of_ble_eq_true rfl, Nat.le_of_ble_eq_true rfl⟩) (fl_preV hK hSt hN hS hP (by decide) (kg_MD) rfl) rfl rfl hl.1 rfl (lv_room (Nat.le_of_ble_eq_true rfl)) d_MD_cancel_2 ⟨Nat.zero_le _, Nat.zero_le _⟩) hS (fun H locs hP hS => ?_)
  refine lv_if_eq (tgt := 17) hx hb d_MD_cancel_5 (by decide) (fun h_1 => ?_) (fun h_1 => ?_)
  ·
    have hG := hG.trans (if_pos h_1)
    refine lv_iconst (v := 0) hx hb d_MD_cancel_17 (by decide) ?_
    exact fl_zret hx hb hr hlocks hP hS (rfl) (congrArg Prod.fst hG).symm (by rw [hG]) d_MD_cancel_18
  ·
    have hG := hG.trans (if_neg h_1)
    refine lv_aload_n hx hb d_MD_cancel_8 rfl (lv_at hl 0 rfl) ?_
    refine gg_MD (k := 21) (v := .ref (ad 16)) hx hb hts hown hK hP  (hts _ (List.mem_cons_of_mem _ tw_802)) (by decide) rfl rfl d_MD_cancel_9 ?_
    refine lv_iload_n hx hb d_MD_cancel_12 rfl (lv_at hl 1 rfl) ?_
    refine ag_Acancelled (v := .int (M.1 16 x1.toNatClampNeg)) hx hb hK hP  (run_in hbg hb16 (by assumption)) rfl d_MD_cancel_13 ?_
    refine lv_if_eq (tgt := 19) hx hb d_MD_cancel_14 (by decide) (fun h_2 => ?_) (fun h_2 => ?_)
    ·
      have hG := hG.trans (if_pos h_2)
      refine lv_aload_n hx hb d_MD_cancel_19 rfl (lv_at hl 0 rfl) ?_
      refine gg_MD (k := 21) (v := .ref (ad 16)) hx hb hts hown hK hP  (hts _ (List.mem_cons_of_mem _ tw_802)) (by decide) rfl rfl d_MD_cancel_20 ?_
      refine lv_iload_n hx hb d_MD_cancel_23 rfl (lv_at hl 1 rfl) ?_
      refine lv_iconst (v := 1) hx hb d_MD_cancel_24 (by decide) ?_
      refine sg_Acancelled hx hb hK hi hP hS  (rfl) (run_in hbg hb16 (by assumption)) d_MD_cancel_25 (fun H locs hP hS => ?_)
      refine lv_aload_n hx hb d_MD_cancel_26 rfl (lv_at hl 0 rfl) ?_
      refine gg_MD (k := 20) (v := .ref (ad 15)) hx hb hts hown hK hP  (hts _ (List.mem_cons_of_mem _ tw_801)) (by decide) rfl rfl d_MD_cancel_27 ?_
      refine lv_iload_n hx hb d_MD_cancel_30 rfl (lv_at hl 1 rfl) ?_
      refine lv_iconst (v := 0) hx hb d_MD_cancel_31 (by decide) ?_
      refine sg_Adue hx hb hK hi hP hS  (run_in hbg hb16 (by assumption)) d_MD_cancel_32 (fun H locs hP hS => ?_)
      refine lv_aload_n hx hb d_MD_cancel_33 rfl (lv_at hl 0 rfl) ?_
      refine lv_iload_n hx hb d_MD_cancel_34 rfl (lv_at hl 1 rfl) ?_
      refine fl_callv (va_runV (As := [.int x1]) (rest := []) ⟨hx, hb, hml, hown, hts⟩ (c_MD_makeEndDue l hi (fl_i (fl_i M 16 x1.toNatClampNeg 1) 15 x1.toNatClampNeg 0) x1 (run_in hbg hb16 (by assumption))) (kv_MD_makeEndDue hts (hts _ (List.mem_cons_of_mem _ tw_1007)) ⟨Nat.le_of_ble_eq_true rfl, Nat.le_of_ble_eq_true rfl⟩) (fl_preV hK hSt hN hS hP (by decide) (kg_MD) rfl) rfl rfl hl.1 rfl (lv_room (Nat.le_of_ble_eq_true rfl)) d_MD_cancel_35 ⟨Nat.zero_le _, Nat.zero_le _⟩) hS (fun H locs hP hS => ?_)
      refine lv_aload_n hx hb d_MD_cancel_38 rfl (lv_at hl 0 rfl) ?_
      refine gg_MD (k := 25) (v := .ref (ad 20)) hx hb hts hown hK hP  (hts _ (List.mem_cons_of_mem _ tw_806)) (by decide) rfl rfl d_MD_cancel_39 ?_
      refine lv_iload_n hx hb d_MD_cancel_42 rfl (lv_at hl 1 rfl) ?_
      refine lv_iconst (v := 1) hx hb d_MD_cancel_43 (by decide) ?_
      refine sg_Atries hx hb hK hi hP hS  (run_in hbg hb16 (by assumption)) d_MD_cancel_44 (fun H locs hP hS => ?_)
      refine lv_aload_n hx hb d_MD_cancel_45 rfl (lv_at hl 0 rfl) ?_
      refine gg_MD (k := 22) (v := .ref (ad 17)) hx hb hts hown hK hP  (hts _ (List.mem_cons_of_mem _ tw_803)) (by decide) rfl rfl d_MD_cancel_46 ?_
      refine lv_iload_n hx hb d_MD_cancel_49 rfl (lv_at hl 1 rfl) ?_
      refine lv_iconst (v := 0) hx hb d_MD_cancel_50 (by decide) ?_
      refine sg_Aanswered hx hb hK hi hP hS  (rfl) (run_in hbg hb16 (by assumption)) d_MD_cancel_51 (fun H locs hP hS => ?_)
      refine lv_iconst (v := 1) hx hb d_MD_cancel_52 (by decide) ?_
      exact fl_zret hx hb hr hlocks hP hS (rfl) (congrArg Prod.fst hG).symm (by rw [hG]) d_MD_cancel_53
    ·
      have hG := hG.trans (if_neg h_2)
      refine lv_iconst (v := 0) hx hb d_MD_cancel_17 (by decide) ?_
      exact fl_zret hx hb hr hlocks hP hS (rfl) (congrArg Prod.fst hG).symm (by rw [hG]) d_MD_cancel_18
theorem z_MD_cancel (M : fl_M) (x1 : Int32) : (g_MD_cancel M x1).1 &&& 1 = (g_MD_cancel M x1).1 := by
  unfold g_MD_cancel
  repeat (first | split | with_reducible exact z_MD_running .. | (show (0 : Int32) &&& 1 = 0; rfl) | (show (1 : Int32) &&& 1 = 1; rfl) | rfl)
theorem hd_MD_cancel : y_MD_cancel.cls ≠ "java/lang/invoke/MethodHandle" ∧ y_MD_cancel.cls ≠ "java/lang/invoke/VarHandle" ∧ (parseMethodDescriptor y_MD_cancel.desc).map (fun d => d.parameters.length) = some 1 := by decide +kernel
theorem kv_MD_cancel {R : Room} {s : State} {args : Array Value} {c0 : Cond} {own : String} {index : Nat} (hts : ∀ w ∈ c0 :: gw, w.before args s = true) (hl : (Cond.methodLink own index y_MD_cancel).before args s = true) (hR : 1 + 1 ≤ R.frames ∧ 8 + (2 + 11) + 21 ≤ R.locals) : CallW R s args own "FarLinkModel" index y_MD_cancel b_MD_cancel 2 (some .boolean) w_MD_cancel ({ frames := 1, cells := 0, slots := 0, locals := 21 } : Room) 0 0 1 := ⟨callB_of 1 hts (gw_in tw_1002) rfl rfl rfl (hts _ (List.mem_cons_of_mem _ tw_10)) hl hd_MD_cancel hR, hts _ (List.mem_cons_of_mem _ tw_1000), hts _ (List.mem_cons_of_mem _ tw_1001)⟩
def g_MD_suspend (M : fl_M) (x1 : Int32) (x2 : Int32) : Int32 × fl_M :=
  if (g_MD_running M x1) = 0 then ((0, M)) else (if (M.1 18 x1.toNatClampNeg) = x2 then ((0, M)) else ((1, (fl_i M 18 x1.toNatClampNeg x2))))
set_option maxHeartbeats 400000 in
set_option maxRecDepth 100000 in
theorem c_MD_suspend (l : Launch) {D : va_G} {ad : Nat → Nat} {cA : Nat → ClassId} (hi : fl_inj ad 41) (M : fl_M) (x1 : Int32) (x2 : Int32) (hbg : nn (M.1 0 13)) (hb16 : (M.1 0 13).toNatClampNeg ≤ 16) (hz2 : x2 &&& 1 = x2) : Met l y_MD_suspend w_MD_suspend ({ frames := 1, cells := 0, slots := 0, locals := 21 } : Room) (va_Pc [.ref (ad 0), .int x1, .int x2] (fl_B D cls (yt cA) ([] : fl_L) ([] : fl_FN) ([] : fl_MN) ad (yc ad cA) 41 M)) (va_Qi (fun r M' => r = (g_MD_suspend M x1 x2).1 ∧ M' = ((g_MD_suspend M x1 x2).2)) (fl_E D cls ad (yc ad cA) 41) (fl_A ad 41)) 0 0 (fl_A ad 41) := by
  refine Met.ofW (cc := b_MD_suspend) (maxL := 3) (ret := (some .boolean)) (by decide) rfl ?_
  intro p e s m args below meth c s₁ B hml hv
  obtain ⟨rfl, hP, hK, hSt, hN⟩ := hv
  have hx := B.exec
  have hb := B.bytes
  have hr := B.returns
  have hts := atoms_spec (ws := w_MD_suspend) B.pre
  have hown : s.vm.findClass "FarLinkModel" = some m.cls := findClass_of_methodNamed B.named
  have hlocks := B.notSynchronized
  have hS : va_S (fl_A ad 41) s.heap s.heap [] := va_S.rf
  have hl := lv_entry ([.ref (ad 0), .int x1, .int x2]) (n := 3) (Nat.le_of_ble_eq_true rfl)
  rw [lg_entry_eq]
  generalize (lg_sl ([.ref (ad 0), .int x1, .int x2]) ++ List.replicate (3 - (lg_sl ([.ref (ad 0), .int x1, .int x2])).length) Slot.unset).toArray = ls at hl ⊢
  have hl : lv_has ls 3 [(0, .ref (ad 0)), (1, .int x1), (2, .int x2)] := hl
  have hG := g_MD_suspend.eq_1 M x1 x2
  refine lv_aload_n hx hb d_MD_suspend_0 rfl (lv_at hl 0 rfl) ?_
  refine lv_iload_n hx hb d_MD_suspend_1 rfl (lv_at hl 1 rfl) ?_
  refine fl_calli (va_runV (As := [.int x1]) (rest := []) ⟨hx, hb, hml, hown, hts⟩ (c_MD_running l hi M x1 (by assumption) (by assumption)) (kv_MD_running hts (hts _ (List.mem_cons_of_mem _ tw_1003)) ⟨Nat.le_of_ble_eq_true rfl, Nat.le_of_ble_eq_true rfl⟩) (fl_preV hK hSt hN hS hP (by decide) (kg_MD) rfl) rfl rfl hl.1 rfl (lv_room (Nat.le_of_ble_eq_true rfl)) d_MD_suspend_2 ⟨Nat.zero_le _, Nat.zero_le _⟩) hS (fun H locs hP hS => ?_)
  refine lv_if_eq (tgt := 18) hx hb d_MD_suspend_5 (by decide) (fun h_1 => ?_) (fun h_1 => ?_)
  ·
    have hG := hG.trans (if_pos h_1)
    refine lv_iconst (v := 0) hx hb d_MD_suspend_18 (by decide) ?_
    exact fl_zret hx hb hr hlocks hP hS (rfl) (congrArg Prod.fst hG).symm (by rw [hG]) d_MD_suspend_19
  ·
    have hG := hG.trans (if_neg h_1)
    refine lv_aload_n hx hb d_MD_suspend_8 rfl (lv_at hl 0 rfl) ?_
    refine gg_MD (k := 23) (v := .ref (ad 18)) hx hb hts hown hK hP  (hts _ (List.mem_cons_of_mem _ tw_804)) (by decide) rfl rfl d_MD_suspend_9 ?_
    refine lv_iload_n hx hb d_MD_suspend_12 rfl (lv_at hl 1 rfl) ?_
    refine ag_Asuspended (v := .int (M.1 18 x1.toNatClampNeg)) hx hb hK hP  (run_in hbg hb16 (by assumption)) rfl d_MD_suspend_13 ?_
    refine lv_iload_n hx hb d_MD_suspend_14 rfl (lv_at hl 2 rfl) ?_
    refine lv_icmp_ne (tgt := 20) hx hb d_MD_suspend_15 (by decide) (fun h_2 => ?_) (fun h_2 => ?_)
    ·
      have hG := hG.trans (if_neg h_2)
      refine lv_aload_n hx hb d_MD_suspend_20 rfl (lv_at hl 0 rfl) ?_
      refine gg_MD (k := 23) (v := .ref (ad 18)) hx hb hts hown hK hP  (hts _ (List.mem_cons_of_mem _ tw_804)) (by decide) rfl rfl d_MD_suspend_21 ?_
      refine lv_iload_n hx hb d_MD_suspend_24 rfl (lv_at hl 1 rfl) ?_
      refine lv_iload_n hx hb d_MD_suspend_25 rfl (lv_at hl 2 rfl) ?_
      refine sg_Asuspended hx hb hK hi hP hS  (by assumption) (run_in hbg hb16 (by assumption)) d_MD_suspend_26 (fun H locs hP hS => ?_)
      refine lv_iconst (v := 1) hx hb d_MD_suspend_27 (by decide) ?_
      exact fl_zret hx hb hr hlocks hP hS (rfl) (congrArg Prod.fst hG).symm (by rw [hG]) d_MD_suspend_28
    ·
      have hG := hG.trans (if_pos h_2)
      refine lv_iconst (v := 0) hx hb d_MD_suspend_18 (by decide) ?_
      exact fl_zret hx hb hr hlocks hP hS (rfl) (congrArg Prod.fst hG).symm (by rw [hG]) d_MD_suspend_19
theorem z_MD_suspend (M : fl_M) (x1 : Int32) (x2 : Int32) : (g_MD_suspend M x1 x2).1 &&& 1 = (g_MD_suspend M x1 x2).1 := by
  unfold g_MD_suspend
  repeat (first | split | with_reducible exact z_MD_running .. | (show (0 : Int32) &&& 1 = 0; rfl) | (show (1 : Int32) &&& 1 = 1; rfl) | rfl)
theorem hd_MD_suspend : y_MD_suspend.cls ≠ "java/lang/invoke/MethodHandle" ∧ y_MD_suspend.cls ≠ "java/lang/invoke/VarHandle" ∧ (parseMethodDescriptor y_MD_suspend.desc).map (fun d => d.parameters.length) = some 2 := by decide +kernel
theorem kv_MD_suspend {R : Room} {s : State} {args : Array Value} {c0 : Cond} {own : String} {index : Nat} (hts : ∀ w ∈ c0 :: gw, w.before args s = true) (hl : (Cond.methodLink own index y_MD_suspend).before args s = true) (hR : 1 + 1 ≤ R.frames ∧ 8 + (3 + 11) + 21 ≤ R.locals) : CallW R s args own "FarLinkModel" index y_MD_suspend b_MD_suspend 3 (some .boolean) w_MD_suspend ({ frames := 1, cells := 0, slots := 0, locals := 21 } : Room) 0 0 2 := ⟨callB_of 2 hts (gw_in tw_1014) rfl rfl rfl (hts _ (List.mem_cons_of_mem _ tw_10)) hl hd_MD_suspend hR, hts _ (List.mem_cons_of_mem _ tw_1012), hts _ (List.mem_cons_of_mem _ tw_1013)⟩
def g_MD_outcome (M : fl_M) (x1 : Int32) (x2 : Int32) : Int32 :=
  if x1 = 0 then (if x2 < 0 then ((-1)) else (if x2 < (M.1 0 13) then (if (M.1 13 x2.toNatClampNeg) = 0 then (0) else (8 + (M.1 14 x2.toNatClampNeg))) else ((-1)))) else (if (g_MD_outside x2 15) = 0 then (if (M.1 25 x2.toNatClampNeg) = 0 then ((-1)) else (if (M.1 25 x2.toNatClampNeg) = 1 then (0) else (if (M.1 25 x2.toNatClampNeg) = 3 then ((M.1 26 x2.toNatClampNeg) + 8) else ((M.1 26 x2.toNatClampNeg) + 0)))) else ((-1)))
set_option maxHeartbeats 400000 in
set_option maxRecDepth 100000 in
theorem c_MD_outcome (l : Launch) {D : va_G} {ad : Nat → Nat} {cA : Nat → ClassId} (hi : fl_inj ad 41) (M : fl_M) (x1 : Int32) (x2 : Int32) (hbg : nn (M.1 0 13)) (hb16 : (M.1 0 13).toNatClampNeg ≤ 16) : Met l y_MD_outcome w_MD_outcome ({ frames := 1, cells := 0, slots := 0, locals := 21 } : Room) (va_Pc [.ref (ad 0), .int x1, .int x2] (fl_B D cls (yt cA) ([] : fl_L) ([] : fl_FN) ([] : fl_MN) ad (yc ad cA) 41 M)) (va_Qi (fun r M' => r = (g_MD_outcome M x1 x2) ∧ M' = M) (fl_E D cls ad (yc ad cA) 41) (fl_A ad 41)) 0 0 (fl_A ad 41) := by
  refine Met.ofW (cc := b_MD_outcome) (maxL := 3) (ret := (some .int)) (by decide) rfl ?_
  intro p e s m args below meth c s₁ B hml hv
  obtain ⟨rfl, hP, hK, hSt, hN⟩ := hv
  have hx := B.exec
  have hb := B.bytes
  have hr := B.returns
  have hts := atoms_spec (ws := w_MD_outcome) B.pre
  have hown : s.vm.findClass "FarLinkModel" = some m.cls := findClass_of_methodNamed B.named
  have hlocks := B.notSynchronized
  have hS : va_S (fl_A ad 41) s.heap s.heap [] := va_S.rf
  have hl := lv_entry ([.ref (ad 0), .int x1, .int x2]) (n := 3) (Nat.le_of_ble_eq_true rfl)
  rw [lg_entry_eq]
  generalize (lg_sl ([.ref (ad 0), .int x1, .int x2]) ++ List.replicate (3 - (lg_sl ([.ref (ad 0), .int x1, .int x2])).length) Slot.unset).toArray = ls at hl ⊢
  have hl : lv_has ls 3 [(0, .ref (ad 0)), (1, .int x1), (2, .int x2)] := hl
  have hG := g_MD_outcome.eq_1 M x1 x2
  refine lv_iload_n hx hb d_MD_outcome_0 rfl (lv_at hl 1 rfl) ?_
  refine lv_if_eq (tgt := 62) hx hb d_MD_outcome_1 (by decide) (fun h_1 => ?_) (fun h_1 => ?_)
  ·
    have hG := hG.trans (if_pos h_1)
    refine lv_iload_n hx hb d_MD_outcome_62 rfl (lv_at hl 2 rfl) ?_
    refine lv_if_lt (tgt := 74) hx hb d_MD_outcome_63 (by decide) (fun h_2 => ?_) (fun h_2 => ?_)
    ·
      have hG := hG.trans (if_pos h_2)
      refine lv_iconst (v := -1) hx hb d_MD_outcome_74 (by decide) ?_
      exact fl_iret hx hb hr hlocks hP hS hG.symm rfl d_MD_outcome_75
    ·
      have hG := hG.trans (if_neg h_2)
      refine lv_iload_n hx hb d_MD_outcome_66 rfl (lv_at hl 2 rfl) ?_
      refine lv_aload_n hx hb d_MD_outcome_67 rfl (lv_at hl 0 rfl) ?_
      refine gg_MD (k := 13) (v := .int (M.1 0 13)) hx hb hts hown hK hP  (hts _ (List.mem_cons_of_mem _ tw_794)) (by decide) rfl rfl d_MD_outcome_68 ?_
      refine lv_icmp_lt (tgt := 76) hx hb d_MD_outcome_71 (by decide) (fun h_3 => ?_) (fun h_3 => ?_)
      ·
        have hG := hG.trans (if_pos h_3)
        refine lv_aload_n hx hb d_MD_outcome_76 rfl (lv_at hl 0 rfl) ?_
        refine gg_MD (k := 18) (v := .ref (ad 13)) hx hb hts hown hK hP  (hts _ (List.mem_cons_of_mem _ tw_799)) (by decide) rfl rfl d_MD_outcome_77 ?_
        refine lv_iload_n hx hb d_MD_outcome_80 rfl (lv_at hl 2 rfl) ?_
        refine ag_Aended (v := .int (M.1 13 x2.toNatClampNeg)) hx hb hK hP  (cnt_in2 hbg hb16 (by assumption) (by assumption)) rfl d_MD_outcome_81 ?_
        refine lv_if_eq (tgt := 97) hx hb d_MD_outcome_82 (by decide) (fun h_4 => ?_) (fun h_4 => ?_)
        ·
          have hG := hG.trans (if_pos h_4)
          refine lv_iconst (v := 0) hx hb d_MD_outcome_97 (by decide) ?_
          exact fl_iret hx hb hr hlocks hP hS hG.symm rfl d_MD_outcome_98
        ·
          have hG := hG.trans (if_neg h_4)
          refine lv_bipush (v := 8) hx hb d_MD_outcome_85 (by decide) ?_
          refine lv_aload_n hx hb d_MD_outcome_87 rfl (lv_at hl 0 rfl) ?_
          refine gg_MD (k := 19) (v := .ref (ad 14)) hx hb hts hown hK hP  (hts _ (List.mem_cons_of_mem _ tw_800)) (by decide) rfl rfl d_MD_outcome_88 ?_
          refine lv_iload_n hx hb d_MD_outcome_91 rfl (lv_at hl 2 rfl) ?_
          refine ag_Aresult (v := .int (M.1 14 x2.toNatClampNeg)) hx hb hK hP  (cnt_in2 hbg hb16 (by assumption) (by assumption)) rfl d_MD_outcome_92 ?_
          refine lv_iadd hx hb d_MD_outcome_93 ?_
          refine lv_goto (tgt := 98) hx hb d_MD_outcome_94 (by decide) ?_
          exact fl_iret hx hb hr hlocks hP hS hG.symm rfl d_MD_outcome_98
      ·
        have hG := hG.trans (if_neg h_3)
        refine lv_iconst (v := -1) hx hb d_MD_outcome_74 (by decide) ?_
        exact fl_iret hx hb hr hlocks hP hS hG.symm rfl d_MD_outcome_75
  ·
    have hG := hG.trans (if_neg h_1)
    refine lv_iload_n hx hb d_MD_outcome_4 rfl (lv_at hl 2 rfl) ?_
    refine lv_bipush (v := 15) hx hb d_MD_outcome_5 (by decide) ?_
    refine fl_calli (va_runS (As := [.int x2, .int 15]) (rest := []) ⟨hx, hb, hml, hown, hts⟩ (c_MD_outside l hi M x2 15) (kv_MD_outside hts (hts _ (List.mem_cons_of_mem _ tw_990)) ⟨Nat.le_of_ble_eq_true rfl, Nat.le_of_ble_eq_true rfl⟩) (fl_preS hK hSt hN hS hP) rfl rfl hl.1 rfl (lv_room (Nat.le_of_ble_eq_true rfl)) d_MD_outcome_7 ⟨Nat.zero_le _, Nat.zero_le _⟩) hS (fun H locs hP hS => ?_)
    refine lv_if_ne (tgt := 22) hx hb d_MD_outcome_10 (by decide) (fun h_5 => ?_) (fun h_5 => ?_)
    ·
      have hG := hG.trans (if_neg h_5)
      refine lv_iconst (v := -1) hx hb d_MD_outcome_22 (by decide) ?_
      exact fl_iret hx hb hr hlocks hP hS hG.symm rfl d_MD_outcome_23
    ·
      have hG := hG.trans (if_pos h_5)
      refine lv_aload_n hx hb d_MD_outcome_13 rfl (lv_at hl 0 rfl) ?_
      refine gg_MD (k := 41) (v := .ref (ad 25)) hx hb hts hown hK hP  (hts _ (List.mem_cons_of_mem _ tw_822)) (by decide) rfl rfl d_MD_outcome_14 ?_
      refine lv_iload_n hx hb d_MD_outcome_17 rfl (lv_at hl 2 rfl) ?_
      refine ag_Astage (v := .int (M.1 25 x2.toNatClampNeg)) hx hb hK hP  (out_vp (b := 15) (n := 15) rfl (by decide) (by assumption)) rfl d_MD_outcome_18 ?_
      refine lv_if_ne (tgt := 24) hx hb d_MD_outcome_19 (by decide) (fun h_6 => ?_) (fun h_6 => ?_)
      ·
        have hG := hG.trans (if_neg h_6)
        refine lv_aload_n hx hb d_MD_outcome_24 rfl (lv_at hl 0 rfl) ?_
        refine gg_MD (k := 41) (v := .ref (ad 25)) hx hb hts hown hK hP  (hts _ (List.mem_cons_of_mem _ tw_822)) (by decide) rfl rfl d_MD_outcome_25 ?_
        refine lv_iload_n hx hb d_MD_outcome_28 rfl (lv_at hl 2 rfl) ?_
        refine ag_Astage (v := .int (M.1 25 x2.toNatClampNeg)) hx hb hK hP  (out_vp (b := 15) (n := 15) rfl (by decide) (by assumption)) rfl d_MD_outcome_29 ?_
        refine lv_iconst (v := 1) hx hb d_MD_outcome_30 (by decide) ?_
        refine lv_icmp_ne (tgt := 38) hx hb d_MD_outcome_31 (by decide) (fun h_7 => ?_) (fun h_7 => ?_)
        ·
          have hG := hG.trans (if_neg h_7)
          refine lv_aload_n hx hb d_MD_outcome_38 rfl (lv_at hl 0 rfl) ?_
          refine gg_MD (k := 42) (v := .ref (ad 26)) hx hb hts hown hK hP  (hts _ (List.mem_cons_of_mem _ tw_823)) (by decide) rfl rfl d_MD_outcome_39 ?_
          refine lv_iload_n hx hb d_MD_outcome_42 rfl (lv_at hl 2 rfl) ?_
          refine ag_Acondition (v := .int (M.1 26 x2.toNatClampNeg)) hx hb hK hP  (out_vp (b := 15) (n := 15) rfl (by decide) (by assumption)) rfl d_MD_outcome_43 ?_
          refine lv_aload_n hx hb d_MD_outcome_44 rfl (lv_at hl 0 rfl) ?_
          refine gg_MD (k := 41) (v := .ref (ad 25)) hx hb hts hown hK hP  (hts _ (List.mem_cons_of_mem _ tw_822)) (by decide) rfl rfl d_MD_outcome_45 ?_
          refine lv_iload_n hx hb d_MD_outcome_48 rfl (lv_at hl 2 rfl) ?_
          refine ag_Astage (v := .int (M.1 25 x2.toNatClampNeg)) hx hb hK hP  (out_vp (b := 15) (n := 15) rfl (by decide) (by assumption)) rfl d_MD_outcome_49 ?_
          refine lv_iconst (v := 3) hx hb d_MD_outcome_50 (by decide) ?_
          refine lv_icmp_ne (tgt := 59) hx hb d_MD_outcome_51 (by decide) (fun h_8 => ?_) (fun h_8 => ?_)
          ·
            have hG := hG.trans (if_neg h_8)
            refine lv_iconst (v := 0) hx hb d_MD_outcome_59 (by decide) ?_
            refine lv_iadd hx hb d_MD_outcome_60 ?_
            exact fl_iret hx hb hr hlocks hP hS hG.symm rfl d_MD_outcome_61
          ·
            have hG := hG.trans (if_pos h_8)
            refine lv_bipush (v := 8) hx hb d_MD_outcome_54 (by decide) ?_
            refine lv_goto (tgt := 60) hx hb d_MD_outcome_56 (by decide) ?_
            refine lv_iadd hx hb d_MD_outcome_60 ?_
            exact fl_iret hx hb hr hlocks hP hS hG.symm rfl d_MD_outcome_61
        ·
          have hG := hG.trans (if_pos h_7)
          refine lv_iconst (v := 0) hx hb d_MD_outcome_34 (by decide) ?_
          refine lv_goto (tgt := 61) hx hb d_MD_outcome_35 (by decide) ?_
          exact fl_iret hx hb hr hlocks hP hS hG.symm rfl d_MD_outcome_61
      ·
        have hG := hG.trans (if_pos h_6)
        refine lv_iconst (v := -1) hx hb d_MD_outcome_22 (by decide) ?_
        exact fl_iret hx hb hr hlocks hP hS hG.symm rfl d_MD_outcome_23
theorem hd_MD_outcome : y_MD_outcome.cls ≠ "java/lang/invoke/MethodHandle" ∧ y_MD_outcome.cls ≠ "java/lang/invoke/VarHandle" ∧ (parseMethodDescriptor y_MD_outcome.desc).map (fun d => d.parameters.length) = some 2 := by decide +kernel
theorem kv_MD_outcome {R : Room} {s : State} {args : Array Value} {c0 : Cond} {own : String} {index : Nat} (hts : ∀ w ∈ c0 :: gw, w.before args s = true) (hl : (Cond.methodLink own index y_MD_outcome).before args s = true) (hR : 1 + 1 ≤ R.frames ∧ 8 + (3 + 11) + 21 ≤ R.locals) : CallW R s args own "FarLinkModel" index y_MD_outcome b_MD_outcome 3 (some .int) w_MD_outcome ({ frames := 1, cells := 0, slots := 0, locals := 21 } : Room) 0 0 2 := ⟨callB_of 2 hts (gw_in tw_1145) rfl rfl rfl (hts _ (List.mem_cons_of_mem _ tw_10)) hl hd_MD_outcome hR, hts _ (List.mem_cons_of_mem _ tw_1143), hts _ (List.mem_cons_of_mem _ tw_1144)⟩
def g_MD_stored (M : fl_M) (x1 : Int32) (x2 : Int32) : Int32 :=
  if (g_MD_outside x1 3) = 0 then (if (-1) ≤ x2 then (if x2 = (-1) then (M.1 39 x1.toNatClampNeg) else (if (M.1 39 x1.toNatClampNeg) ≤ x2 then (0) else (M.1 40 (((16 * x1) + x2).toNatClampNeg)))) else (0)) else (0)
set_option maxHeartbeats 400000 in
set_option maxRecDepth 100000 in
theorem c_MD_stored (l : Launch) {D : va_G} {ad : Nat → Nat} {cA : Nat → ClassId} (hi : fl_inj ad 41) (M : fl_M) (x1 : Int32) (x2 : Int32) (hsl : ∀ i : Nat, i < 4 → M.1 39 i ≤ 16) : Met l y_MD_stored w_MD_stored ({ frames := 1, cells := 0, slots := 0, locals := 21 } : Room) (va_Pc [.ref (ad 0), .int x1, .int x2] (fl_B D cls (yt cA) ([] : fl_L) ([] : fl_FN) ([] : fl_MN) ad (yc ad cA) 41 M)) (va_Qi (fun r M' => r = (g_MD_stored M x1 x2) ∧ M' = M) (fl_E D cls ad (yc ad cA) 41) (fl_A ad 41)) 0 0 (fl_A ad 41) := by
  refine Met.ofW (cc := b_MD_stored) (maxL := 3) (ret := (some .int)) (by decide) rfl ?_
  intro p e s m args below meth c s₁ B hml hv
  obtain ⟨rfl, hP, hK, hSt, hN⟩ := hv
  have hx := B.exec
  have hb := B.bytes
  have hr := B.returns
  have hts := atoms_spec (ws := w_MD_stored) B.pre
  have hown : s.vm.findClass "FarLinkModel" = some m.cls := findClass_of_methodNamed B.named
  have hlocks := B.notSynchronized
  have hS : va_S (fl_A ad 41) s.heap s.heap [] := va_S.rf
  have hl := lv_entry ([.ref (ad 0), .int x1, .int x2]) (n := 3) (Nat.le_of_ble_eq_true rfl)
  rw [lg_entry_eq]
  generalize (lg_sl ([.ref (ad 0), .int x1, .int x2]) ++ List.replicate (3 - (lg_sl ([.ref (ad 0), .int x1, .int x2])).length) Slot.unset).toArray = ls at hl ⊢
  have hl : lv_has ls 3 [(0, .ref (ad 0)), (1, .int x1), (2, .int x2)] := hl
  have hG := g_MD_stored.eq_1 M x1 x2
  refine lv_iload_n hx hb d_MD_stored_0 rfl (lv_at hl 1 rfl) ?_
  refine lv_iconst (v := 3) hx hb d_MD_stored_1 (by decide) ?_
  refine fl_calli (va_runS (As := [.int x1, .int 3]) (rest := []) ⟨hx, hb, hml, hown, hts⟩ (c_MD_outside l hi M x1 3) (kv_MD_outside hts (hts _ (List.mem_cons_of_mem _ tw_990)) ⟨Nat.le_of_ble_eq_true rfl, Nat.le_of_ble_eq_true rfl⟩) (fl_preS hK hSt hN hS hP) rfl rfl hl.1 rfl (lv_room (Nat.le_of_ble_eq_true rfl)) d_MD_stored_2 ⟨Nat.zero_le _, Nat.zero_le _⟩) hS (fun H locs hP hS => ?_)
  refine lv_if_ne (tgt := 13) hx hb d_MD_stored_5 (by decide) (fun h_1 => ?_) (fun h_1 => ?_)
  ·
    have hG := hG.trans (if_neg h_1)
    refine lv_iconst (v := 0) hx hb d_MD_stored_13 (by decide) ?_
    exact fl_iret hx hb hr hlocks hP hS hG.symm rfl d_MD_stored_14
  ·
    have hG := hG.trans (if_pos h_1)
    refine lv_iload_n hx hb d_MD_stored_8 rfl (lv_at hl 2 rfl) ?_
    refine lv_iconst (v := -1) hx hb d_MD_stored_9 (by decide) ?_
    refine lv_icmp_ge (tgt := 15) hx hb d_MD_stored_10 (by decide) (fun h_2 => ?_) (fun h_2 => ?_)
    ·
      have hG := hG.trans (if_pos h_2)
      refine lv_iload_n hx hb d_MD_stored_15 rfl (lv_at hl 2 rfl) ?_
      refine lv_iconst (v := -1) hx hb d_MD_stored_16 (by decide) ?_
      refine lv_icmp_ne (tgt := 29) hx hb d_MD_stored_17 (by decide) (fun h_3 => ?_) (fun h_3 => ?_)
      ·
        have hG := hG.trans (if_neg h_3)
        refine lv_iload_n hx hb d_MD_stored_29 rfl (lv_at hl 2 rfl) ?_
        refine lv_aload_n hx hb d_MD_stored_30 rfl (lv_at hl 0 rfl) ?_
        refine gg_MD (k := 55) (v := .ref (ad 39)) hx hb hts hown hK hP  (hts _ (List.mem_cons_of_mem _ tw_836)) (by decide) rfl rfl d_MD_stored_31 ?_
        refine lv_iload_n hx hb d_MD_stored_34 rfl (lv_at hl 1 rfl) ?_
        refine ag_AstoreLength (v := .int (M.1 39 x1.toNatClampNeg)) hx hb hK hP  (out_vp (b := 3) (n := 3) rfl (by decide) (by assumption)) rfl d_MD_stored_35 ?_
        refine lv_icmp_ge (tgt := 53) hx hb d_MD_stored_36 (by decide) (fun h_4 => ?_) (fun h_4 => ?_)
        ·
          have hG := hG.trans (if_pos h_4)
          refine lv_iconst (v := 0) hx hb d_MD_stored_53 (by decide) ?_
          exact fl_iret hx hb hr hlocks hP hS hG.symm rfl d_MD_stored_54
        ·
          have hG := hG.trans (if_neg h_4)
          refine lv_aload_n hx hb d_MD_stored_39 rfl (lv_at hl 0 rfl) ?_
          refine gg_MD (k := 56) (v := .ref (ad 40)) hx hb hts hown hK hP  (hts _ (List.mem_cons_of_mem _ tw_837)) (by decide) rfl rfl d_MD_stored_40 ?_
          refine lv_bipush (v := 16) hx hb d_MD_stored_43 (by decide) ?_
          refine lv_iload_n hx hb d_MD_stored_45 rfl (lv_at hl 1 rfl) ?_
          refine lv_imul hx hb d_MD_stored_46 ?_
          refine lv_iload_n hx hb d_MD_stored_47 rfl (lv_at hl 2 rfl) ?_
          refine lv_iadd hx hb d_MD_stored_48 ?_
          refine ag_Astore (v := .int (M.1 40 (((16 * x1) + x2).toNatClampNeg))) hx hb hK hP  (in_mul4 (out_vp (b := 3) (n := 3) rfl (by decide) (by assumption)) (st_in2 (hsl _ (vp_lt (out_vp (x := x1) (b := 3) (n := 3) rfl (by decide) (by assumption)))) (by assumption) (by assumption) (by assumption))) rfl d_MD_stored_49 ?_
          refine lv_goto (tgt := 54) hx hb d_MD_stored_50 (by decide) ?_
          exact fl_iret hx hb hr hlocks hP hS hG.symm rfl d_MD_stored_54
      ·
        have hG := hG.trans (if_pos h_3)
        refine lv_aload_n hx hb d_MD_stored_20 rfl (lv_at hl 0 rfl) ?_
        refine gg_MD (k := 55) (v := .ref (ad 39)) hx hb hts hown hK hP  (hts _ (List.mem_cons_of_mem _ tw_836)) (by decide) rfl rfl d_MD_stored_21 ?_
        refine lv_iload_n hx hb d_MD_stored_24 rfl (lv_at hl 1 rfl) ?_
        refine ag_AstoreLength (v := .int (M.1 39 x1.toNatClampNeg)) hx hb hK hP  (out_vp (b := 3) (n := 3) rfl (by decide) (by assumption)) rfl d_MD_stored_25 ?_
        refine lv_goto (tgt := 54) hx hb d_MD_stored_26 (by decide) ?_
        exact fl_iret hx hb hr hlocks hP hS hG.symm rfl d_MD_stored_54
    ·
      have hG := hG.trans (if_neg h_2)
      refine lv_iconst (v := 0) hx hb d_MD_stored_13 (by decide) ?_
      exact fl_iret hx hb hr hlocks hP hS hG.symm rfl d_MD_stored_14
theorem hd_MD_stored : y_MD_stored.cls ≠ "java/lang/invoke/MethodHandle" ∧ y_MD_stored.cls ≠ "java/lang/invoke/VarHandle" ∧ (parseMethodDescriptor y_MD_stored.desc).map (fun d => d.parameters.length) = some 2 := by decide +kernel
theorem kv_MD_stored {R : Room} {s : State} {args : Array Value} {c0 : Cond} {own : String} {index : Nat} (hts : ∀ w ∈ c0 :: gw, w.before args s = true) (hl : (Cond.methodLink own index y_MD_stored).before args s = true) (hR : 1 + 1 ≤ R.frames ∧ 8 + (3 + 11) + 21 ≤ R.locals) : CallW R s args own "FarLinkModel" index y_MD_stored b_MD_stored 3 (some .int) w_MD_stored ({ frames := 1, cells := 0, slots := 0, locals := 21 } : Room) 0 0 2 := ⟨callB_of 2 hts (gw_in tw_1158) rfl rfl rfl (hts _ (List.mem_cons_of_mem _ tw_10)) hl hd_MD_stored hR, hts _ (List.mem_cons_of_mem _ tw_1156), hts _ (List.mem_cons_of_mem _ tw_1157)⟩
def g_MD_window_L4 (M : fl_M) : Nat → Nat → Int32 → Int32
  | 0, i_4, wm => (wm)
  | k_4 + 1, i_4, wm => if (M.1 24 ((((M.1 0 29) - (nI i_4)) &&& 15).toNatClampNeg)) = 0 then (g_MD_window_L4 M k_4 (i_4 + 1) (wm + 0)) else (g_MD_window_L4 M k_4 (i_4 + 1) (wm + 1))
def g_MD_window (M : fl_M) : Int32 :=
  (((M.1 0 28) + (4 * (M.1 0 29))) + (64 * (M.1 0 30))) + (512 * (g_MD_window_L4 M ((M.1 0 30).toNatClampNeg) 1 0))
set_option maxHeartbeats 400000 in
set_option maxRecDepth 100000 in
theorem c_MD_window (l : Launch) {D : va_G} {ad : Nat → Nat} {cA : Nat → ClassId} (hi : fl_inj ad 41) (M : fl_M) (hu : nn (M.1 0 30)) (hu16 : (M.1 0 30).toNatClampNeg ≤ 16) : Met l y_MD_window w_MD_window ({ frames := 0, cells := 0, slots := 0, locals := 0 } : Room) (va_Pc [.ref (ad 0)] (fl_B D cls (yt cA) ([] : fl_L) ([] : fl_FN) ([] : fl_MN) ad (yc ad cA) 41 M)) (va_Qi (fun r M' => r = (g_MD_window M) ∧ M' = M) (fl_E D cls ad (yc ad cA) 41) (fl_A ad 41)) 0 0 (fl_A ad 41) := by
  refine Met.ofW (cc := b_MD_window) (maxL := 3) (ret := (some .int)) (by decide) rfl ?_
  intro p e s m args below meth c s₁ B hml hv
  obtain ⟨rfl, hP, hK, hSt, hN⟩ := hv
  have hx := B.exec
  have hb := B.bytes
  have hr := B.returns
  have hts := atoms_spec (ws := w_MD_window) B.pre
  have hown : s.vm.findClass "FarLinkModel" = some m.cls := findClass_of_methodNamed B.named
  have hlocks := B.notSynchronized
  have hS : va_S (fl_A ad 41) s.heap s.heap [] := va_S.rf
  have hl := lv_entry ([.ref (ad 0)]) (n := 3) (Nat.le_of_ble_eq_true rfl)
  rw [lg_entry_eq]
  generalize (lg_sl ([.ref (ad 0)]) ++ List.replicate (3 - (lg_sl ([.ref (ad 0)])).length) Slot.unset).toArray = ls at hl ⊢
  have hl : lv_has ls 3 [(0, .ref (ad 0))] := hl
  have hG := g_MD_window.eq_1 M
  refine lv_iconst (v := 0) hx hb d_MD_window_0 (by decide) ?_
  refine lv_istore_n (lv' := [(1, .int 0), (0, .ref (ad 0))]) hx hb d_MD_window_1 rfl hl (by decide) rfl (fun ls hl => ?_)
  refine lv_iconst (v := 1) hx hb d_MD_window_2 (by decide) ?_
  refine lv_istore_n (lv' := [(2, .int 1), (1, .int 0), (0, .ref (ad 0))]) hx hb d_MD_window_3 rfl hl (by decide) rfl (fun ls hl => ?_)
  have hBo := tn_lt (M.1 0 30)
  have lp_4 : ∀ (k_4 : Nat) (i_4 : Nat) (wm : Int32) (ls : Array Slot) (H : Heap) (locs : List Loc), i_4 + k_4 = (M.1 0 30).toNatClampNeg + 1 → lv_has ls 3 [(0, .ref (ad 0)), (1, .int wm), (2, .int (nI i_4))] → va_P D cls (fl_w ad (yc ad cA) 41 M) H → va_S (fl_A ad 41) s.heap H locs → (∀ (v : Int32) (ls : Array Slot) (H : Heap) (locs : List Loc), v = g_MD_window_L4 M k_4 i_4 wm → lv_has ls 3 [(0, .ref (ad 0)), (1, .int v)] → va_P D cls (fl_w ad (yc ad cA) 41 M) H → va_S (fl_A ad 41) s.heap H locs → W p l e (headSpec w_MD_window ({ frames := 0, cells := 0, slots := 0, locals := 0 } : Room)).room s m ([.ref (ad 0)] : List Value).toArray below meth c H locs 0 0 (MQ below (va_Qi (fun r M' => r = (g_MD_window M) ∧ M' = M) (fl_E D cls ad (yc ad cA) 41) (fl_A ad 41)) ([.ref (ad 0)] : List Value).toArray s 0 0 (fl_A ad 41)) (F0 m 43 ls [])) → W p l e (headSpec w_MD_window ({ frames := 0, cells := 0, slots := 0, locals := 0 } : Room)).room s m ([.ref (ad 0)] : List Value).toArray below meth c H locs 0 0 (MQ below (va_Qi (fun r M' => r = (g_MD_window M) ∧ M' = M) (fl_E D cls ad (yc ad cA) 41) (fl_A ad 41)) ([.ref (ad 0)] : List Value).toArray s 0 0 (fl_A ad 41)) (F0 m 4 ls []) := by
    intro k_4
    induction k_4 with
    | zero =>
      intro i_4 wm ls H locs hbd hl hP hS kk
      have hG : g_MD_window_L4 M 0 i_4 wm = _ := g_MD_window_L4.eq_1 ..
      refine lv_iload_n hx hb d_MD_window_4 rfl (lv_at hl 2 rfl) ?_
      refine lv_aload_n hx hb d_MD_window_5 rfl (lv_at hl 0 rfl) ?_
      refine gg_MD (k := 30) (v := .int (M.1 0 30)) hx hb hts hown hK hP  (hts _ (List.mem_cons_of_mem _ tw_811)) (by decide) rfl rfl d_MD_window_6 ?_
      refine lv_icmp_gt (tgt := 43) hx hb d_MD_window_9 (by decide) (fun _ => ?_) (fun h_1 => absurd (fl_ltn (b := (M.1 0 30).toNatClampNeg) hu (by omega) (by omega)) h_1)
      have hl := lv_sub (l' := [(0, .ref (ad 0)), (1, .int wm)]) hl [0, 1] rfl
      exact kk (wm) ls _ _ hG.symm hl hP hS
    | succ k_4 ih_4 =>
      intro i_4 wm ls H locs hbd hl hP hS kk
      have hG : g_MD_window_L4 M (k_4 + 1) i_4 wm = _ := g_MD_window_L4.eq_2 ..
      refine lv_iload_n hx hb d_MD_window_4 rfl (lv_at hl 2 rfl) ?_
      refine lv_aload_n hx hb d_MD_window_5 rfl (lv_at hl 0 rfl) ?_
      refine gg_MD (k := 30) (v := .int (M.1 0 30)) hx hb hts hown hK hP  (hts _ (List.mem_cons_of_mem _ tw_811)) (by decide) rfl rfl d_MD_window_6 ?_
      refine lv_icmp_gt (tgt := 43) hx hb d_MD_window_9 (by decide) (fun h_2 => absurd h_2 (fl_nltn (b := (M.1 0 30).toNatClampNeg) hu (by omega) (by omega))) (fun _ => ?_)
      refine lv_iload_n hx hb d_MD_window_12 rfl (lv_at hl 1 rfl) ?_
      refine lv_aload_n hx hb d_MD_window_13 rfl (lv_at hl 0 rfl) ?_
      refine gg_MD (k := 32) (v := .ref (ad 24)) hx hb hts hown hK hP  (hts _ (List.mem_cons_of_mem _ tw_813)) (by decide) rfl rfl d_MD_window_14 ?_
      refine lv_aload_n hx hb d_MD_window_17 rfl (lv_at hl 0 rfl) ?_
      refine gg_MD (k := 29) (v := .int (M.1 0 29)) hx hb hts hown hK hP  (hts _ (List.mem_cons_of_mem _ tw_810)) (by decide) rfl rfl d_MD_window_18 ?_
      refine lv_iload_n hx hb d_MD_window_21 rfl (lv_at hl 2 rfl) ?_
      refine lv_isub hx hb d_MD_window_22 ?_
      refine lv_bipush (v := 15) hx hb d_MD_window_23 (by decide) ?_
      refine lv_iand hx hb d_MD_window_25 ?_
      refine ag_Amarked (v := .int (M.1 24 ((((M.1 0 29) - (nI i_4)) &&& 15).toNatClampNeg))) hx hb hK hP  (fl_in15 _) rfl d_MD_window_26 ?_
      refine lv_if_eq (tgt := 34) hx hb d_MD_window_27 (by decide) (fun h_3 => ?_) (fun h_3 => ?_)
      ·
        have hG := hG.trans (if_pos h_3)
        refine lv_iconst (v := 0) hx hb d_MD_window_34 (by decide) ?_
        refine lv_iadd hx hb d_MD_window_35 ?_
        refine lv_istore_n (lv' := [(1, .int (wm + 0)), (0, .ref (ad 0)), (2, .int (nI i_4))]) hx hb d_MD_window_36 rfl hl (by decide) rfl (fun ls hl => ?_)
        refine lv_iinc (k := 2) (v := nI (i_4 + 1)) (lv' := [(2, .int (nI (i_4 + 1))), (1, .int (wm + 0)), (0, .ref (ad 0))]) hx hb d_MD_window_37 hl rfl (fl_inc _) (by decide) rfl (fun ls hl => ?_)
        refine lv_goto (tgt := 4) hx hb d_MD_window_40 (by decide) ?_
        have hl := lv_sub (l' := [(0, .ref (ad 0)), (1, .int (wm + 0)), (2, .int (nI (i_4 + 1)))]) hl [2, 1, 0] rfl
        exact ih_4 (i_4 + 1) (wm + 0) ls _ _ (by omega) hl hP hS (fun v ls H locs hv => kk v ls H locs (hv.trans hG.symm))
      ·
        have hG := hG.trans (if_neg h_3)
        refine lv_iconst (v := 1) hx hb d_MD_window_30 (by decide) ?_
        refine lv_goto (tgt := 35) hx hb d_MD_window_31 (by decide) ?_
        refine lv_iadd hx hb d_MD_window_35 ?_
        refine lv_istore_n (lv' := [(1, .int (wm + 1)), (0, .ref (ad 0)), (2, .int (nI i_4))]) hx hb d_MD_window_36 rfl hl (by decide) rfl (fun ls hl => ?_)
        refine lv_iinc (k := 2) (v := nI (i_4 + 1)) (lv' := [(2, .int (nI (i_4 + 1))), (1, .int (wm + 1)), (0, .ref (ad 0))]) hx hb d_MD_window_37 hl rfl (fl_inc _) (by decide) rfl (fun ls hl => ?_)
        refine lv_goto (tgt := 4) hx hb d_MD_window_40 (by decide) ?_
        have hl := lv_sub (l' := [(0, .ref (ad 0)), (1, .int (wm + 1)), (2, .int (nI (i_4 + 1)))]) hl [2, 1, 0] rfl
        exact ih_4 (i_4 + 1) (wm + 1) ls _ _ (by omega) hl hP hS (fun v ls H locs hv => kk v ls H locs (hv.trans hG.symm))
  have hl := lv_sub (l' := [(0, .ref (ad 0)), (1, .int 0), (2, .int (nI 1))]) hl [2, 1, 0] rfl
  refine lp_4 ((M.1 0 30).toNatClampNeg) 1 0 ls _ _ (by omega) hl hP hS (fun v ls H locs hv hl hP hS => ?_)
  subst hv
  refine lv_aload_n hx hb d_MD_window_43 rfl (lv_at hl 0 rfl) ?_
  refine gg_MD (k := 28) (v := .int (M.1 0 28)) hx hb hts hown hK hP  (hts _ (List.mem_cons_of_mem _ tw_809)) (by decide) rfl rfl d_MD_window_44 ?_
  refine lv_iconst (v := 4) hx hb d_MD_window_47 (by decide) ?_
  refine lv_aload_n hx hb d_MD_window_48 rfl (lv_at hl 0 rfl) ?_
  refine gg_MD (k := 29) (v := .int (M.1 0 29)) hx hb hts hown hK hP  (hts _ (List.mem_cons_of_mem _ tw_810)) (by decide) rfl rfl d_MD_window_49 ?_
  refine lv_imul hx hb d_MD_window_52 ?_
  refine lv_iadd hx hb d_MD_window_53 ?_
  refine lv_bipush (v := 64) hx hb d_MD_window_54 (by decide) ?_
  refine lv_aload_n hx hb d_MD_window_56 rfl (lv_at hl 0 rfl) ?_
  refine gg_MD (k := 30) (v := .int (M.1 0 30)) hx hb hts hown hK hP  (hts _ (List.mem_cons_of_mem _ tw_811)) (by decide) rfl rfl d_MD_window_57 ?_
  refine lv_imul hx hb d_MD_window_60 ?_
  refine lv_iadd hx hb d_MD_window_61 ?_
  refine lv_sipush (v := 512) hx hb d_MD_window_62 (by decide) ?_
  refine lv_iload_n hx hb d_MD_window_65 rfl (lv_at hl 1 rfl) ?_
  refine lv_imul hx hb d_MD_window_66 ?_
  refine lv_iadd hx hb d_MD_window_67 ?_
  exact fl_iret hx hb hr hlocks hP hS hG.symm rfl d_MD_window_68
theorem hd_MD_window : y_MD_window.cls ≠ "java/lang/invoke/MethodHandle" ∧ y_MD_window.cls ≠ "java/lang/invoke/VarHandle" ∧ (parseMethodDescriptor y_MD_window.desc).map (fun d => d.parameters.length) = some 0 := by decide +kernel
theorem kv_MD_window {R : Room} {s : State} {args : Array Value} {c0 : Cond} {own : String} {index : Nat} (hts : ∀ w ∈ c0 :: gw, w.before args s = true) (hl : (Cond.methodLink own index y_MD_window).before args s = true) (hR : 0 + 1 ≤ R.frames ∧ 8 + (3 + 11) + 0 ≤ R.locals) : CallW R s args own "FarLinkModel" index y_MD_window b_MD_window 3 (some .int) w_MD_window ({ frames := 0, cells := 0, slots := 0, locals := 0 } : Room) 0 0 0 := ⟨callB_of 0 hts (gw_in tw_1166) rfl rfl rfl (hts _ (List.mem_cons_of_mem _ tw_10)) hl hd_MD_window hR, hts _ (List.mem_cons_of_mem _ tw_1164), hts _ (List.mem_cons_of_mem _ tw_1165)⟩
def g_MD_firstDue_L26 (x1 : Int32) : Nat → Nat → Int32
  | 0, i_26 => ((nI i_26))
  | k_26 + 1, i_26 => if ((j_ishr x1 (nI i_26)) &&& 1) = 0 then (g_MD_firstDue_L26 x1 k_26 (i_26 + 1)) else (((nI i_26)))
def g_MD_firstDue (x1 : Int32) : Int32 :=
  if ((j_ishr x1 18) &&& 1) = 0 then (if ((j_ishr x1 16) &&& 1) = 0 then ((g_MD_firstDue_L26 x1 17 0)) else (16)) else (18)
set_option maxHeartbeats 400000 in
set_option maxRecDepth 100000 in
theorem c_MD_firstDue (l : Launch) {D : va_G} {ad : Nat → Nat} {cA : Nat → ClassId} (hi : fl_inj ad 41) (M : fl_M) (x1 : Int32) : Met l y_MD_firstDue w_MD_firstDue ({ frames := 0, cells := 0, slots := 0, locals := 0 } : Room) (va_Pc [.ref (ad 0), .int x1] (fl_B D cls (yt cA) ([] : fl_L) ([] : fl_FN) ([] : fl_MN) ad (yc ad cA) 41 M)) (va_Qi (fun r M' => r = (g_MD_firstDue x1) ∧ M' = M) (fl_E D cls ad (yc ad cA) 41) (fl_A ad 41)) 0 0 (fl_A ad 41) := by
  refine Met.ofW (cc := b_MD_firstDue) (maxL := 3) (ret := (some .int)) (by decide) rfl ?_
  intro p e s m args below meth c s₁ B hml hv
  obtain ⟨rfl, hP, hK, hSt, hN⟩ := hv
  have hx := B.exec
  have hb := B.bytes
  have hr := B.returns
  have hts := atoms_spec (ws := w_MD_firstDue) B.pre
  have hown : s.vm.findClass "FarLinkModel" = some m.cls := findClass_of_methodNamed B.named
  have hlocks := B.notSynchronized
  have hS : va_S (fl_A ad 41) s.heap s.heap [] := va_S.rf
  have hl := lv_entry ([.ref (ad 0), .int x1]) (n := 3) (Nat.le_of_ble_eq_true rfl)
  rw [lg_entry_eq]
  generalize (lg_sl ([.ref (ad 0), .int x1]) ++ List.replicate (3 - (lg_sl ([.ref (ad 0), .int x1])).length) Slot.unset).toArray = ls at hl ⊢
  have hl : lv_has ls 3 [(0, .ref (ad 0)), (1, .int x1)] := hl
  have hG := g_MD_firstDue.eq_1 x1
  refine lv_iload_n hx hb d_MD_firstDue_0 rfl (lv_at hl 1 rfl) ?_
  refine lv_bipush (v := 18) hx hb d_MD_firstDue_1 (by decide) ?_
  refine lj_ishr hx hb d_MD_firstDue_3 ?_
  refine lv_iconst (v := 1) hx hb d_MD_firstDue_4 (by decide) ?_
  refine lv_iand hx hb d_MD_firstDue_5 ?_
  refine lv_if_eq (tgt := 12) hx hb d_MD_firstDue_6 (by decide) (fun h_1 => ?_) (fun h_1 => ?_)
  ·
    have hG := hG.trans (if_pos h_1)
    refine lv_iload_n hx hb d_MD_firstDue_12 rfl (lv_at hl 1 rfl) ?_
    refine lv_bipush (v := 16) hx hb d_MD_firstDue_13 (by decide) ?_
    refine lj_ishr hx hb d_MD_firstDue_15 ?_
    refine lv_iconst (v := 1) hx hb d_MD_firstDue_16 (by decide) ?_
    refine lv_iand hx hb d_MD_firstDue_17 ?_
    refine lv_if_eq (tgt := 24) hx hb d_MD_firstDue_18 (by decide) (fun h_2 => ?_) (fun h_2 => ?_)
    ·
      have hG := hG.trans (if_pos h_2)
      refine lv_iconst (v := 0) hx hb d_MD_firstDue_24 (by decide) ?_
      refine lv_istore_n (lv' := [(2, .int 0), (0, .ref (ad 0)), (1, .int x1)]) hx hb d_MD_firstDue_25 rfl hl (by decide) rfl (fun ls hl => ?_)
      have lp_26 : ∀ (k_26 : Nat) (i_26 : Nat) (ls : Array Slot) (H : Heap) (locs : List Loc), i_26 + k_26 = 17 → lv_has ls 3 [(0, .ref (ad 0)), (1, .int x1), (2, .int (nI i_26))] → va_P D cls (fl_w ad (yc ad cA) 41 M) H → va_S (fl_A ad 41) s.heap H locs → (∀ (v : Int32) (ls : Array Slot) (H : Heap) (locs : List Loc), v = g_MD_firstDue_L26 x1 k_26 i_26 → lv_has ls 3 [(0, .ref (ad 0)), (1, .int x1), (2, .int v)] → va_P D cls (fl_w ad (yc ad cA) 41 M) H → va_S (fl_A ad 41) s.heap H locs → W p l e (headSpec w_MD_firstDue ({ frames := 0, cells := 0, slots := 0, locals := 0 } : Room)).room s m ([.ref (ad 0), .int x1] : List Value).toArray below meth c H locs 0 0 (MQ below (va_Qi (fun r M' => r = (g_MD_firstDue x1) ∧ M' = M) (fl_E D cls ad (yc ad cA) 41) (fl_A ad 41)) ([.ref (ad 0), .int x1] : List Value).toArray s 0 0 (fl_A ad 41)) (F0 m 46 ls [])) → W p l e (headSpec w_MD_firstDue ({ frames := 0, cells := 0, slots := 0, locals := 0 } : Room)).room s m ([.ref (ad 0), .int x1] : List Value).toArray below meth c H locs 0 0 (MQ below (va_Qi (fun r M' => r = (g_MD_firstDue x1) ∧ M' = M) (fl_E D cls ad (yc ad cA) 41) (fl_A ad 41)) ([.ref (ad 0), .int x1] : List Value).toArray s 0 0 (fl_A ad 41)) (F0 m 26 ls []) := by
        intro k_26
        induction k_26 with
        | zero =>
          intro i_26 ls H locs hbd hl hP hS kk
          have hG : g_MD_firstDue_L26 x1 0 i_26 = _ := g_MD_firstDue_L26.eq_1 ..
          refine lv_iload_n hx hb d_MD_firstDue_26 rfl (lv_at hl 2 rfl) ?_
          refine lv_bipush (v := 17) hx hb d_MD_firstDue_27 (by decide) ?_
          refine lv_icmp_ge (tgt := 46) hx hb d_MD_firstDue_29 (by decide) (fun _ => ?_) (fun h_3 => absurd (fl_le (b := 17) rfl (by omega) (by omega)) h_3)
          have hl := lv_sub (l' := [(0, .ref (ad 0)), (1, .int x1), (2, .int (nI i_26))]) hl [0, 1, 2] rfl
          exact kk ((nI i_26)) ls _ _ hG.symm hl hP hS
        | succ k_26 ih_26 =>
          intro i_26 ls H locs hbd hl hP hS kk
          have hG : g_MD_firstDue_L26 x1 (k_26 + 1) i_26 = _ := g_MD_firstDue_L26.eq_2 ..
          refine lv_iload_n hx hb d_MD_firstDue_26 rfl (lv_at hl 2 rfl) ?_
          refine lv_bipush (v := 17) hx hb d_MD_firstDue_27 (by decide) ?_
          refine lv_icmp_ge (tgt := 46) hx hb d_MD_firstDue_29 (by decide) (fun h_4 => absurd h_4 (fl_nle (b := 17) rfl (by omega) (by omega))) (fun _ => ?_)
          refine lv_iload_n hx hb d_MD_firstDue_32 rfl (lv_at hl 1 rfl) ?_
          refine lv_iload_n hx hb d_MD_firstDue_33 rfl (lv_at hl 2 rfl) ?_
          refine lj_ishr hx hb d_MD_firstDue_34 ?_
          refine lv_iconst (v := 1) hx hb d_MD_firstDue_35 (by decide) ?_
          refine lv_iand hx hb d_MD_firstDue_36 ?_
          refine lv_if_ne (tgt := 46) hx hb d_MD_firstDue_37 (by decide) (fun h_5 => ?_) (fun h_5 => ?_)
          ·
            have hG := hG.trans (if_neg h_5)
            have hl := lv_sub (l' := [(0, .ref (ad 0)), (1, .int x1), (2, .int (nI i_26))]) hl [0, 1, 2] rfl
            exact kk ((nI i_26)) ls _ _ hG.symm hl hP hS
          ·
            have hG := hG.trans (if_pos h_5)
            refine lv_iinc (k := 2) (v := nI (i_26 + 1)) (lv' := [(2, .int (nI (i_26 + 1))), (0, .ref (ad 0)), (1, .int x1)]) hx hb d_MD_firstDue_40 hl rfl (fl_inc _) (by decide) rfl (fun ls hl => ?_)
            refine lv_goto (tgt := 26) hx hb d_MD_firstDue_43 (by decide) ?_
            have hl := lv_sub (l' := [(0, .ref (ad 0)), (1, .int x1), (2, .int (nI (i_26 + 1)))]) hl [1, 2, 0] rfl
            exact ih_26 (i_26 + 1) ls _ _ (by omega) hl hP hS (fun v ls H locs hv => kk v ls H locs (hv.trans hG.symm))
      have hl := lv_sub (l' := [(0, .ref (ad 0)), (1, .int x1), (2, .int (nI 0))]) hl [1, 2, 0] rfl
      refine lp_26 17 0 ls _ _ (by omega) hl hP hS (fun v ls H locs hv hl hP hS => ?_)
      subst hv
      refine lv_iload_n hx hb d_MD_firstDue_46 rfl (lv_at hl 2 rfl) ?_
      exact fl_iret hx hb hr hlocks hP hS hG.symm rfl d_MD_firstDue_47
    ·
      have hG := hG.trans (if_neg h_2)
      refine lv_bipush (v := 16) hx hb d_MD_firstDue_21 (by decide) ?_
      exact fl_iret hx hb hr hlocks hP hS hG.symm rfl d_MD_firstDue_23
  ·
    have hG := hG.trans (if_neg h_1)
    refine lv_bipush (v := 18) hx hb d_MD_firstDue_9 (by decide) ?_
    exact fl_iret hx hb hr hlocks hP hS hG.symm rfl d_MD_firstDue_11
theorem hd_MD_firstDue : y_MD_firstDue.cls ≠ "java/lang/invoke/MethodHandle" ∧ y_MD_firstDue.cls ≠ "java/lang/invoke/VarHandle" ∧ (parseMethodDescriptor y_MD_firstDue.desc).map (fun d => d.parameters.length) = some 1 := by decide +kernel
theorem kv_MD_firstDue {R : Room} {s : State} {args : Array Value} {c0 : Cond} {own : String} {index : Nat} (hts : ∀ w ∈ c0 :: gw, w.before args s = true) (hl : (Cond.methodLink own index y_MD_firstDue).before args s = true) (hR : 0 + 1 ≤ R.frames ∧ 8 + (3 + 11) + 0 ≤ R.locals) : CallW R s args own "FarLinkModel" index y_MD_firstDue b_MD_firstDue 3 (some .int) w_MD_firstDue ({ frames := 0, cells := 0, slots := 0, locals := 0 } : Room) 0 0 1 := ⟨callB_of 1 hts (gw_in tw_1131) rfl rfl rfl (hts _ (List.mem_cons_of_mem _ tw_10)) hl hd_MD_firstDue hR, hts _ (List.mem_cons_of_mem _ tw_1130), hts _ (List.mem_cons_of_mem _ ps_MD_firstDue)⟩
