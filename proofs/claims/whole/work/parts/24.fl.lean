/-! contracts: 24.fl -/
theorem has_in {M : fl_M} {x : Int32} (hbg : nn (M.1 10 2)) (hb16 : (M.1 10 2).toNatClampNeg ≤ 16) (h : ¬ g_GR_has M x = 0) : vp_in x 16 := by
  refine sl_in (n := M.1 10 2) ?_ h
  rw [show M.1 10 2 = nI (M.1 10 2).toNatClampNeg from hbg]
  exact nI_le (b := 16) hb16 (by decide)
def g_FL_way (x1 : Int32) : Nat :=
  if x1 = 0 then (8) else (6)
set_option maxHeartbeats 4000000 in
set_option maxRecDepth 100000 in
theorem c_FL_way (l : Launch) {D : va_G} {ad : Nat → Nat} {cA : Nat → ClassId} {st : Nat → Nat} (hi : fl_inj ad 88) (M : fl_M) (x1 : Int32) : Met l y_FL_way w_FL_way ({ frames := 0, cells := 0, slots := 0, locals := 0 } : Room) (va_Pc [.ref (ad 0), .int x1] (fl_B D cls (xt cA) (xSL st) xFN xMN ad (xc ad cA) 88 M)) (va_Qr (fun M' => M' = M) (fun M' a t => a = ad (g_FL_way x1) ∧ fl_E D cls ad (xc ad cA) 88 M' t) (fl_A ad 88)) 0 0 (fl_A ad 88) := by
  refine Met.ofW (cc := b_FL_way) (maxL := 2) (ret := (some (.object "FarLink$Way"))) (by decide) rfl ?_
  intro p e s m args below meth c s₁ B hml hv
  obtain ⟨rfl, hP, hK, hSt, hN⟩ := hv
  have hx := B.exec
  have hb := B.bytes
  have hr := B.returns
  have hts := atoms_spec (ws := w_FL_way) B.pre
  have hown : s.vm.findClass "FarLink" = some m.cls := findClass_of_methodNamed B.named
  have hlocks := B.notSynchronized
  have hS : va_S (fl_A ad 88) s.heap s.heap [] := va_S.rf
  have hl := lv_entry ([.ref (ad 0), .int x1]) (n := 2) (Nat.le_of_ble_eq_true rfl)
  rw [lg_entry_eq]
  generalize (lg_sl ([.ref (ad 0), .int x1]) ++ List.replicate (2 - (lg_sl ([.ref (ad 0), .int x1])).length) Slot.unset).toArray = ls at hl ⊢
  have hl : lv_has ls 2 [(0, .ref (ad 0)), (1, .int x1)] := hl
  have hG := g_FL_way.eq_1 x1
  refine lv_iload_n hx hb d_FL_way_0 rfl (lv_at hl 1 rfl) ?_
  refine lv_if_eq (tgt := 11) hx hb d_FL_way_1 (by decide) (fun h_1 => ?_) (fun h_1 => ?_)
  ·
    have hG := hG.trans (if_pos h_1)
    refine lv_aload_n hx hb d_FL_way_11 rfl (lv_at hl 0 rfl) ?_
    refine gg_FL (k := 2) (v := .ref (ad 8)) hx hb hts hown hK hP  (hts _ (List.mem_cons_of_mem _ tw_284)) (by decide) rfl rfl d_FL_way_12 ?_
    exact fl_aret hx hb hr (Or.inl ⟨_, rfl⟩) hlocks hP hS (congrArg ad hG.symm) rfl d_FL_way_15
  ·
    have hG := hG.trans (if_neg h_1)
    refine lv_aload_n hx hb d_FL_way_4 rfl (lv_at hl 0 rfl) ?_
    refine gg_FL (k := 1) (v := .ref (ad 6)) hx hb hts hown hK hP  (hts _ (List.mem_cons_of_mem _ tw_283)) (by decide) rfl rfl d_FL_way_5 ?_
    refine lv_goto (tgt := 15) hx hb d_FL_way_8 (by decide) ?_
    exact fl_aret hx hb hr (Or.inl ⟨_, rfl⟩) hlocks hP hS (congrArg ad hG.symm) rfl d_FL_way_15
theorem is_way (x1 : Int32) : is_WY (g_FL_way x1) := by
  unfold g_FL_way
  split
  · exact Or.inr rfl
  · exact Or.inl rfl

theorem hd_FL_way : y_FL_way.cls ≠ "java/lang/invoke/MethodHandle" ∧ y_FL_way.cls ≠ "java/lang/invoke/VarHandle" ∧ (parseMethodDescriptor y_FL_way.desc).map (fun d => d.parameters.length) = some 1 := by decide +kernel
theorem kv_FL_way {R : Room} {s : State} {args : Array Value} {c0 : Cond} {own : String} {index : Nat} (hts : ∀ w ∈ c0 :: gw, w.before args s = true) (hl : (Cond.methodLink own index y_FL_way).before args s = true) (hR : 0 + 1 ≤ R.frames ∧ 8 + (2 + 11) + 0 ≤ R.locals) : CallW R s args own "FarLink" index y_FL_way b_FL_way 2 (some (.object "FarLink$Way")) w_FL_way ({ frames := 0, cells := 0, slots := 0, locals := 0 } : Room) 0 0 1 := ⟨callB_of 1 hts (gw_in tw_356) rfl rfl rfl (hts _ (List.mem_cons_of_mem _ tw_1)) hl hd_FL_way hR, hts _ (List.mem_cons_of_mem _ tw_355), hts _ (List.mem_cons_of_mem _ ps_FL_way)⟩
def g_FL_write (M : fl_M) (x1 : Int32) (x2 : Int32) (x3 : Int32) : Int32 × fl_M :=
  if (g_FL_isBelow x1 4) = 0 then ((0, M)) else (if (g_FL_isBelow x2 16) = 0 then ((0, M)) else ((1, (fl_i M (2 + x1.toNatClampNeg) x2.toNatClampNeg x3))))
set_option maxHeartbeats 4000000 in
set_option maxRecDepth 100000 in
theorem c_FL_write (l : Launch) {D : va_G} {ad : Nat → Nat} {cA : Nat → ClassId} {st : Nat → Nat} (hi : fl_inj ad 88) (M : fl_M) (x1 : Int32) (x2 : Int32) (x3 : Int32) : Met l y_FL_write w_FL_write ({ frames := 1, cells := 0, slots := 0, locals := 21 } : Room) (va_Pc [.ref (ad 0), .int x1, .int x2, .int x3] (fl_B D cls (xt cA) (xSL st) xFN xMN ad (xc ad cA) 88 M)) (va_Qi (fun r M' => r = (g_FL_write M x1 x2 x3).1 ∧ M' = ((g_FL_write M x1 x2 x3).2)) (fl_E D cls ad (xc ad cA) 88) (fl_A ad 88)) 0 0 (fl_A ad 88) := by
  refine Met.ofW (cc := b_FL_write) (maxL := 4) (ret := (some .boolean)) (by decide) rfl ?_
  intro p e s m args below meth c s₁ B hml hv
  obtain ⟨rfl, hP, hK, hSt, hN⟩ := hv
  have hx := B.exec
  have hb := B.bytes
  have hr := B.returns
  have hts := atoms_spec (ws := w_FL_write) B.pre
  have hown : s.vm.findClass "FarLink" = some m.cls := findClass_of_methodNamed B.named
  have hlocks := B.notSynchronized
  have hS : va_S (fl_A ad 88) s.heap s.heap [] := va_S.rf
  have hl := lv_entry ([.ref (ad 0), .int x1, .int x2, .int x3]) (n := 4) (Nat.le_of_ble_eq_true rfl)
  rw [lg_entry_eq]
  generalize (lg_sl ([.ref (ad 0), .int x1, .int x2, .int x3]) ++ List.replicate (4 - (lg_sl ([.ref (ad 0), .int x1, .int x2, .int x3])).length) Slot.unset).toArray = ls at hl ⊢
  have hl : lv_has ls 4 [(0, .ref (ad 0)), (1, .int x1), (2, .int x2), (3, .int x3)] := hl
  have hG := g_FL_write.eq_1 M x1 x2 x3
  refine lv_iload_n hx hb d_FL_write_0 rfl (lv_at hl 1 rfl) ?_
  refine lv_iconst (v := 4) hx hb d_FL_write_1 (by decide) ?_
  refine fl_calli (va_runS (As := [.int x1, .int 4]) (rest := []) ⟨hx, hb, hml, hown, hts⟩ (c_FL_isBelow l hi M x1 4) (kv_FL_isBelow hts (hts _ (List.mem_cons_of_mem _ tw_305)) ⟨Nat.le_of_ble_eq_true rfl, Nat.le_of_ble_eq_true rfl⟩) (fl_preS hK hSt hN hS hP) rfl rfl hl.1 rfl (lv_room (Nat.le_of_ble_eq_true rfl)) d_FL_write_2 ⟨Nat.zero_le _, Nat.zero_le _⟩) hS (fun H locs hP hS => ?_)
  refine lv_if_eq (tgt := 17) hx hb d_FL_write_5 (by decide) (fun h_1 => ?_) (fun h_1 => ?_)
  ·
    have hG := hG.trans (if_pos h_1)
    refine lv_iconst (v := 0) hx hb d_FL_write_17 (by decide) ?_
    exact fl_zret hx hb hr hlocks hP hS (rfl) (congrArg Prod.fst hG).symm (by rw [hG]) d_FL_write_18
  ·
    have hG := hG.trans (if_neg h_1)
    refine lv_iload_n hx hb d_FL_write_8 rfl (lv_at hl 2 rfl) ?_
    refine lv_bipush (v := 16) hx hb d_FL_write_9 (by decide) ?_
    refine fl_calli (va_runS (As := [.int x2, .int 16]) (rest := []) ⟨hx, hb, hml, hown, hts⟩ (c_FL_isBelow l hi M x2 16) (kv_FL_isBelow hts (hts _ (List.mem_cons_of_mem _ tw_305)) ⟨Nat.le_of_ble_eq_true rfl, Nat.le_of_ble_eq_true rfl⟩) (fl_preS hK hSt hN hS hP) rfl rfl hl.1 rfl (lv_room (Nat.le_of_ble_eq_true rfl)) d_FL_write_11 ⟨Nat.zero_le _, Nat.zero_le _⟩) hS (fun H locs hP hS => ?_)
    refine lv_if_ne (tgt := 19) hx hb d_FL_write_14 (by decide) (fun h_2 => ?_) (fun h_2 => ?_)
    ·
      have hG := hG.trans (if_neg h_2)
      refine lv_aload_n hx hb d_FL_write_19 rfl (lv_at hl 0 rfl) ?_
      refine gg_FL (k := 0) (v := .ref (ad 1)) hx hb hts hown hK hP  (hts _ (List.mem_cons_of_mem _ tw_282)) (by decide) rfl rfl d_FL_write_20 ?_
      refine lv_iload_n hx hb d_FL_write_23 rfl (lv_at hl 1 rfl) ?_
      have hs_3 : vp_in x1 4 := by first | assumption | exact below_in4 (by assumption)
      refine ar_FILES hx hb hK hP hs_3 d_FL_write_24 ?_
      refine lv_iload_n hx hb d_FL_write_25 rfl (lv_at hl 2 rfl) ?_
      refine lv_iload_n hx hb d_FL_write_26 rfl (lv_at hl 3 rfl) ?_
      refine sg_FROW hx hb hK hi hP hS (is_FROWof hs_3) (by first | assumption | exact below_in16 (by assumption)) d_FL_write_27 (fun H locs hP hS => ?_)
      refine lv_iconst (v := 1) hx hb d_FL_write_28 (by decide) ?_
      exact fl_zret hx hb hr hlocks hP hS (rfl) (congrArg Prod.fst hG).symm (by rw [hG]) d_FL_write_29
    ·
      have hG := hG.trans (if_pos h_2)
      refine lv_iconst (v := 0) hx hb d_FL_write_17 (by decide) ?_
      exact fl_zret hx hb hr hlocks hP hS (rfl) (congrArg Prod.fst hG).symm (by rw [hG]) d_FL_write_18
theorem z_FL_write (M : fl_M) (x1 : Int32) (x2 : Int32) (x3 : Int32) : (g_FL_write M x1 x2 x3).1 &&& 1 = (g_FL_write M x1 x2 x3).1 := by
  unfold g_FL_write
  repeat (first | split | with_reducible exact z_FL_isBelow .. | (show (0 : Int32) &&& 1 = 0; rfl) | (show (1 : Int32) &&& 1 = 1; rfl) | rfl)
theorem hd_FL_write : y_FL_write.cls ≠ "java/lang/invoke/MethodHandle" ∧ y_FL_write.cls ≠ "java/lang/invoke/VarHandle" ∧ (parseMethodDescriptor y_FL_write.desc).map (fun d => d.parameters.length) = some 3 := by decide +kernel
theorem kv_FL_write {R : Room} {s : State} {args : Array Value} {c0 : Cond} {own : String} {index : Nat} (hts : ∀ w ∈ c0 :: gw, w.before args s = true) (hl : (Cond.methodLink own index y_FL_write).before args s = true) (hR : 1 + 1 ≤ R.frames ∧ 8 + (4 + 11) + 21 ≤ R.locals) : CallW R s args own "FarLink" index y_FL_write b_FL_write 4 (some .boolean) w_FL_write ({ frames := 1, cells := 0, slots := 0, locals := 21 } : Room) 0 0 3 := ⟨callB_of 3 hts (gw_in tw_304) rfl rfl rfl (hts _ (List.mem_cons_of_mem _ tw_1)) hl hd_FL_write hR, hts _ (List.mem_cons_of_mem _ tw_302), hts _ (List.mem_cons_of_mem _ tw_303)⟩
def g_FL_put (M : fl_M) (x1 : Int32) (x2 : Int32) (x3 : Int32) (x4 : Int32) : Int32 × fl_M :=
  if (g_FL_isBelow x1 4) = 0 then (((-1), M)) else (if (g_FL_isBelow x2 17) = 0 then (((-1), M)) else (if (g_FL_isBelow x3 4) = 0 then (((-1), M)) else (((g_GR_begin (2 + x1.toNatClampNeg) M x2 x3 x4).1, (g_GR_begin (2 + x1.toNatClampNeg) M x2 x3 x4).2))))
set_option maxHeartbeats 4000000 in
set_option maxRecDepth 100000 in
theorem c_FL_put (l : Launch) {D : va_G} {ad : Nat → Nat} {cA : Nat → ClassId} {st : Nat → Nat} (hi : fl_inj ad 88) (M : fl_M) (x1 : Int32) (x2 : Int32) (x3 : Int32) (x4 : Int32) (hbg : nn (M.1 10 2)) (hz4 : x4 &&& 1 = x4) : Met l y_FL_put w_FL_put ({ frames := 3, cells := 0, slots := 0, locals := 108 } : Room) (va_Pc [.ref (ad 0), .int x1, .int x2, .int x3, .int x4] (fl_B D cls (xt cA) (xSL st) xFN xMN ad (xc ad cA) 88 M)) (va_Qi (fun r M' => r = (g_FL_put M x1 x2 x3 x4).1 ∧ M' = ((g_FL_put M x1 x2 x3 x4).2)) (fl_E D cls ad (xc ad cA) 88) (fl_A ad 88)) 0 0 (fl_A ad 88) := by
  refine Met.ofW (cc := b_FL_put) (maxL := 5) (ret := (some .int)) (by decide) rfl ?_
  intro p e s m args below meth c s₁ B hml hv
  obtain ⟨rfl, hP, hK, hSt, hN⟩ := hv
  have hx := B.exec
  have hb := B.bytes
  have hr := B.returns
  have hts := atoms_spec (ws := w_FL_put) B.pre
  have hown : s.vm.findClass "FarLink" = some m.cls := findClass_of_methodNamed B.named
  have hlocks := B.notSynchronized
  have hS : va_S (fl_A ad 88) s.heap s.heap [] := va_S.rf
  have hl := lv_entry ([.ref (ad 0), .int x1, .int x2, .int x3, .int x4]) (n := 5) (Nat.le_of_ble_eq_true rfl)
  rw [lg_entry_eq]
  generalize (lg_sl ([.ref (ad 0), .int x1, .int x2, .int x3, .int x4]) ++ List.replicate (5 - (lg_sl ([.ref (ad 0), .int x1, .int x2, .int x3, .int x4])).length) Slot.unset).toArray = ls at hl ⊢
  have hl : lv_has ls 5 [(0, .ref (ad 0)), (1, .int x1), (2, .int x2), (3, .int x3), (4, .int x4)] := hl
  have hG := g_FL_put.eq_1 M x1 x2 x3 x4
  refine lv_iload_n hx hb d_FL_put_0 rfl (lv_at hl 1 rfl) ?_
  refine lv_iconst (v := 4) hx hb d_FL_put_1 (by decide) ?_
  refine fl_calli (va_runS (As := [.int x1, .int 4]) (rest := []) ⟨hx, hb, hml, hown, hts⟩ (c_FL_isBelow l hi M x1 4) (kv_FL_isBelow hts (hts _ (List.mem_cons_of_mem _ tw_305)) ⟨Nat.le_of_ble_eq_true rfl, Nat.le_of_ble_eq_true rfl⟩) (fl_preS hK hSt hN hS hP) rfl rfl hl.1 rfl (lv_room (Nat.le_of_ble_eq_true rfl)) d_FL_put_2 ⟨Nat.zero_le _, Nat.zero_le _⟩) hS (fun H locs hP hS => ?_)
  refine lv_if_eq (tgt := 25) hx hb d_FL_put_5 (by decide) (fun h_1 => ?_) (fun h_1 => ?_)
  ·
    have hG := hG.trans (if_pos h_1)
    refine lv_iconst (v := -1) hx hb d_FL_put_25 (by decide) ?_
    exact fl_iret hx hb hr hlocks hP hS (congrArg Prod.fst hG).symm (by rw [hG]) d_FL_put_26
  ·
    have hG := hG.trans (if_neg h_1)
    refine lv_iload_n hx hb d_FL_put_8 rfl (lv_at hl 2 rfl) ?_
    refine lv_bipush (v := 17) hx hb d_FL_put_9 (by decide) ?_
    refine fl_calli (va_runS (As := [.int x2, .int 17]) (rest := []) ⟨hx, hb, hml, hown, hts⟩ (c_FL_isBelow l hi M x2 17) (kv_FL_isBelow hts (hts _ (List.mem_cons_of_mem _ tw_305)) ⟨Nat.le_of_ble_eq_true rfl, Nat.le_of_ble_eq_true rfl⟩) (fl_preS hK hSt hN hS hP) rfl rfl hl.1 rfl (lv_room (Nat.le_of_ble_eq_true rfl)) d_FL_put_11 ⟨Nat.zero_le _, Nat.zero_le _⟩) hS (fun H locs hP hS => ?_)
    refine lv_if_eq (tgt := 25) hx hb d_FL_put_14 (by decide) (fun h_2 => ?_) (fun h_2 => ?_)
    ·
      have hG := hG.trans (if_pos h_2)
      refine lv_iconst (v := -1) hx hb d_FL_put_25 (by decide) ?_
      exact fl_iret hx hb hr hlocks hP hS (congrArg Prod.fst hG).symm (by rw [hG]) d_FL_put_26
    ·
      have hG := hG.trans (if_neg h_2)
      refine lv_iload_n hx hb d_FL_put_17 rfl (lv_at hl 3 rfl) ?_
      refine lv_iconst (v := 4) hx hb d_FL_put_18 (by decide) ?_
      refine fl_calli (va_runS (As := [.int x3, .int 4]) (rest := []) ⟨hx, hb, hml, hown, hts⟩ (c_FL_isBelow l hi M x3 4) (kv_FL_isBelow hts (hts _ (List.mem_cons_of_mem _ tw_305)) ⟨Nat.le_of_ble_eq_true rfl, Nat.le_of_ble_eq_true rfl⟩) (fl_preS hK hSt hN hS hP) rfl rfl hl.1 rfl (lv_room (Nat.le_of_ble_eq_true rfl)) d_FL_put_19 ⟨Nat.zero_le _, Nat.zero_le _⟩) hS (fun H locs hP hS => ?_)
      refine lv_if_ne (tgt := 27) hx hb d_FL_put_22 (by decide) (fun h_3 => ?_) (fun h_3 => ?_)
      ·
        have hG := hG.trans (if_neg h_3)
        refine lv_aload_n hx hb d_FL_put_27 rfl (lv_at hl 0 rfl) ?_
        refine gg_FL (k := 3) (v := .ref (ad 10)) hx hb hts hown hK hP  (hts _ (List.mem_cons_of_mem _ tw_285)) (by decide) rfl rfl d_FL_put_28 ?_
        refine lv_aload_n hx hb d_FL_put_31 rfl (lv_at hl 0 rfl) ?_
        refine gg_FL (k := 0) (v := .ref (ad 1)) hx hb hts hown hK hP  (hts _ (List.mem_cons_of_mem _ tw_282)) (by decide) rfl rfl d_FL_put_32 ?_
        refine lv_iload_n hx hb d_FL_put_35 rfl (lv_at hl 1 rfl) ?_
        have hs_4 : vp_in x1 4 := by first | assumption | exact below_in4 (by assumption)
        refine ar_FILES hx hb hK hP hs_4 d_FL_put_36 ?_
        refine lv_iload_n hx hb d_FL_put_37 rfl (lv_at hl 2 rfl) ?_
        refine lv_iload_n hx hb d_FL_put_38 rfl (lv_at hl 3 rfl) ?_
        refine lv_iload hx hb d_FL_put_39 (lv_at hl 4 rfl) ?_
        refine fl_calli (va_runV (As := [.ref (ad (2 + x1.toNatClampNeg)), .int x2, .int x3, .int x4]) (rest := []) ⟨hx, hb, hml, hown, hts⟩ (c_GR_begin l hi (2 + x1.toNatClampNeg) M x2 x3 x4 (is_FROWof hs_4) (by assumption) (by assumption)) (kv_GR_begin hts (hts _ (List.mem_cons_of_mem _ tw_312)) ⟨Nat.le_of_ble_eq_true rfl, Nat.le_of_ble_eq_true rfl⟩) (fl_preV hK hSt hN hS hP (by decide) (kg_GR) rfl) rfl rfl hl.1 rfl (lv_room (Nat.le_of_ble_eq_true rfl)) d_FL_put_41 ⟨Nat.zero_le _, Nat.zero_le _⟩) hS (fun H locs hP hS => ?_)
        exact fl_iret hx hb hr hlocks hP hS (congrArg Prod.fst hG).symm (by rw [hG]) d_FL_put_44
      ·
        have hG := hG.trans (if_pos h_3)
        refine lv_iconst (v := -1) hx hb d_FL_put_25 (by decide) ?_
        exact fl_iret hx hb hr hlocks hP hS (congrArg Prod.fst hG).symm (by rw [hG]) d_FL_put_26
theorem hd_FL_put : y_FL_put.cls ≠ "java/lang/invoke/MethodHandle" ∧ y_FL_put.cls ≠ "java/lang/invoke/VarHandle" ∧ (parseMethodDescriptor y_FL_put.desc).map (fun d => d.parameters.length) = some 4 := by decide +kernel
theorem kv_FL_put {R : Room} {s : State} {args : Array Value} {c0 : Cond} {own : String} {index : Nat} (hts : ∀ w ∈ c0 :: gw, w.before args s = true) (hl : (Cond.methodLink own index y_FL_put).before args s = true) (hR : 3 + 1 ≤ R.frames ∧ 8 + (5 + 11) + 108 ≤ R.locals) : CallW R s args own "FarLink" index y_FL_put b_FL_put 5 (some .int) w_FL_put ({ frames := 3, cells := 0, slots := 0, locals := 108 } : Room) 0 0 4 := ⟨callB_of 4 hts (gw_in tw_311) rfl rfl rfl (hts _ (List.mem_cons_of_mem _ tw_1)) hl hd_FL_put hR, hts _ (List.mem_cons_of_mem _ tw_309), hts _ (List.mem_cons_of_mem _ tw_310)⟩
def hg_TR_becomeCancelled (M : fl_M) (q : Nat) : Int32 × fl_M := ((g_TR_becomeCancelled (M.1 q) (M.1 (q + 1))).1, pTR M q ((g_TR_becomeCancelled (M.1 q) (M.1 (q + 1))).2.1) ((g_TR_becomeCancelled (M.1 q) (M.1 (q + 1))).2.2))
def g_FL_cancel (M : fl_M) (x1 : Int32) : Int32 × fl_M :=
  if (g_GR_has M x1) = 0 then ((0, M)) else (if ((hg_TR_becomeCancelled M (24 + 2 * x1.toNatClampNeg)).1) = 0 then ((0, (hg_TR_becomeCancelled M (24 + 2 * x1.toNatClampNeg)).2)) else ((1, (hg_TR_becomeCancelled M (24 + 2 * x1.toNatClampNeg)).2)))
set_option maxHeartbeats 4000000 in
set_option maxRecDepth 100000 in
theorem c_FL_cancel (l : Launch) {D : va_G} {ad : Nat → Nat} {cA : Nat → ClassId} {st : Nat → Nat} (hi : fl_inj ad 88) (M : fl_M) (x1 : Int32) (hbg : nn (M.1 10 2)) (hb16 : (M.1 10 2).toNatClampNeg ≤ 16) : Met l y_FL_cancel w_FL_cancel ({ frames := 2, cells := 0, slots := 0, locals := 42 } : Room) (va_Pc [.ref (ad 0), .int x1] (fl_B D cls (xt cA) (xSL st) xFN xMN ad (xc ad cA) 88 M)) (va_Qi (fun r M' => r = (g_FL_cancel M x1).1 ∧ M' = ((g_FL_cancel M x1).2)) (fl_E D cls ad (xc ad cA) 88) (fl_A ad 88)) 0 0 (fl_A ad 88) := by
  refine Met.ofW (cc := b_FL_cancel) (maxL := 2) (ret := (some .boolean)) (by decide) rfl ?_
  intro p e s m args below meth c s₁ B hml hv
  obtain ⟨rfl, hP, hK, hSt, hN⟩ := hv
  have hx := B.exec
  have hb := B.bytes
  have hr := B.returns
  have hts := atoms_spec (ws := w_FL_cancel) B.pre
  have hown : s.vm.findClass "FarLink" = some m.cls := findClass_of_methodNamed B.named
  have hlocks := B.notSynchronized
  have hS : va_S (fl_A ad 88) s.heap s.heap [] := va_S.rf
  have hl := lv_entry ([.ref (ad 0), .int x1]) (n := 2) (Nat.le_of_ble_eq_true rfl)
  rw [lg_entry_eq]
  generalize (lg_sl ([.ref (ad 0), .int x1]) ++ List.replicate (2 - (lg_sl ([.ref (ad 0), .int x1])).length) Slot.unset).toArray = ls at hl ⊢
  have hl : lv_has ls 2 [(0, .ref (ad 0)), (1, .int x1)] := hl
  have hG := g_FL_cancel.eq_1 M x1
  refine lv_aload_n hx hb d_FL_cancel_0 rfl (lv_at hl 0 rfl) ?_
  refine gg_FL (k := 3) (v := .ref (ad 10)) hx hb hts hown hK hP  (hts _ (List.mem_cons_of_mem _ tw_285)) (by decide) rfl rfl d_FL_cancel_1 ?_
  refine lv_iload_n hx hb d_FL_cancel_4 rfl (lv_at hl 1 rfl) ?_
  refine fl_calli (va_runV (As := [.int x1]) (rest := []) ⟨hx, hb, hml, hown, hts⟩ (c_GR_has l hi M x1) (kv_GR_has hts (hts _ (List.mem_cons_of_mem _ tw_331)) ⟨Nat.le_of_ble_eq_true rfl, Nat.le_of_ble_eq_true rfl⟩) (fl_preV hK hSt hN hS hP (by decide) (kg_GR) rfl) rfl rfl hl.1 rfl (lv_room (Nat.le_of_ble_eq_true rfl)) d_FL_cancel_5 ⟨Nat.zero_le _, Nat.zero_le _⟩) hS (fun H locs hP hS => ?_)
  refine lv_if_eq (tgt := 30) hx hb d_FL_cancel_8 (by decide) (fun h_1 => ?_) (fun h_1 => ?_)
  ·
    have hG := hG.trans (if_pos h_1)
    refine lv_iconst (v := 0) hx hb d_FL_cancel_30 (by decide) ?_
    exact fl_zret hx hb hr hlocks hP hS (rfl) (congrArg Prod.fst hG).symm (by rw [hG]) d_FL_cancel_31
  ·
    have hG := hG.trans (if_neg h_1)
    refine lv_aload_n hx hb d_FL_cancel_11 rfl (lv_at hl 0 rfl) ?_
    refine gg_FL (k := 3) (v := .ref (ad 10)) hx hb hts hown hK hP  (hts _ (List.mem_cons_of_mem _ tw_285)) (by decide) rfl rfl d_FL_cancel_12 ?_
    refine gg_GRN (k := 1) (v := .ref (ad 14)) hx hb hts hown hK hP  (hN.f 9 rfl) (by decide) rfl rfl d_FL_cancel_15 ?_
    refine lv_iload_n hx hb d_FL_cancel_18 rfl (lv_at hl 1 rfl) ?_
    have hs_2 : vp_in x1 16 := has_in hbg hb16 (by assumption)
    refine ar_TRS hx hb hK hP hs_2 d_FL_cancel_19 ?_
    have hP : va_P D cls (fl_w ad (xc ad cA) 88 (pTR M (24 + 2 * x1.toNatClampNeg) (M.1 (24 + 2 * x1.toNatClampNeg)) (M.1 ((24 + 2 * x1.toNatClampNeg) + 1)))) H := by rw [id_TR]; exact hP
    refine fl_calli (va_runV (As := []) (rest := []) ⟨hx, hb, hml, hown, hts⟩ (c_TR_becomeCancelled l hi (is_TRof hs_2) M (M.1 (24 + 2 * x1.toNatClampNeg)) (M.1 ((24 + 2 * x1.toNatClampNeg) + 1))) (kv_TR_becomeCancelled hts (hts _ (List.mem_cons_of_mem _ tw_336)) ⟨Nat.le_of_ble_eq_true rfl, Nat.le_of_ble_eq_true rfl⟩) (fl_preV hK hSt hN hS hP (lt_TR (is_TRof hs_2)) (kc_TR (is_TRof hs_2)) rfl) rfl rfl hl.1 rfl (lv_room (Nat.le_of_ble_eq_true rfl)) d_FL_cancel_20 ⟨Nat.zero_le _, Nat.zero_le _⟩) hS (fun H locs hP hS => ?_)
    have hP : va_P D cls (fl_w ad (xc ad cA) 88 (hg_TR_becomeCancelled M (24 + 2 * x1.toNatClampNeg)).2) H := hP
    refine lv_if_eq (tgt := 30) hx hb d_FL_cancel_23 (by decide) (fun h_3 => ?_) (fun h_3 => ?_)
    ·
      have hG := hG.trans (if_pos h_3)
      refine lv_iconst (v := 0) hx hb d_FL_cancel_30 (by decide) ?_
      exact fl_zret hx hb hr hlocks hP hS (rfl) (congrArg Prod.fst hG).symm (by rw [hG]) d_FL_cancel_31
    ·
      have hG := hG.trans (if_neg h_3)
      refine lv_iconst (v := 1) hx hb d_FL_cancel_26 (by decide) ?_
      refine lv_goto (tgt := 31) hx hb d_FL_cancel_27 (by decide) ?_
      exact fl_zret hx hb hr hlocks hP hS (rfl) (congrArg Prod.fst hG).symm (by rw [hG]) d_FL_cancel_31
theorem z_FL_cancel (M : fl_M) (x1 : Int32) : (g_FL_cancel M x1).1 &&& 1 = (g_FL_cancel M x1).1 := by
  unfold g_FL_cancel
  repeat (first | split | with_reducible exact z_GR_has .. | with_reducible exact z_TR_becomeCancelled .. | (show (0 : Int32) &&& 1 = 0; rfl) | (show (1 : Int32) &&& 1 = 1; rfl) | rfl)
theorem hd_FL_cancel : y_FL_cancel.cls ≠ "java/lang/invoke/MethodHandle" ∧ y_FL_cancel.cls ≠ "java/lang/invoke/VarHandle" ∧ (parseMethodDescriptor y_FL_cancel.desc).map (fun d => d.parameters.length) = some 1 := by decide +kernel
theorem kv_FL_cancel {R : Room} {s : State} {args : Array Value} {c0 : Cond} {own : String} {index : Nat} (hts : ∀ w ∈ c0 :: gw, w.before args s = true) (hl : (Cond.methodLink own index y_FL_cancel).before args s = true) (hR : 2 + 1 ≤ R.frames ∧ 8 + (2 + 11) + 42 ≤ R.locals) : CallW R s args own "FarLink" index y_FL_cancel b_FL_cancel 2 (some .boolean) w_FL_cancel ({ frames := 2, cells := 0, slots := 0, locals := 42 } : Room) 0 0 1 := ⟨callB_of 1 hts (gw_in tw_330) rfl rfl rfl (hts _ (List.mem_cons_of_mem _ tw_1)) hl hd_FL_cancel hR, hts _ (List.mem_cons_of_mem _ tw_328), hts _ (List.mem_cons_of_mem _ tw_329)⟩
def hg_TR_becomeSuspended (M : fl_M) (q : Nat) (x1 : Int32) : Int32 × fl_M := ((g_TR_becomeSuspended (M.1 q) (M.1 (q + 1)) x1).1, pTR M q ((g_TR_becomeSuspended (M.1 q) (M.1 (q + 1)) x1).2.1) ((g_TR_becomeSuspended (M.1 q) (M.1 (q + 1)) x1).2.2))
def g_FL_suspend (M : fl_M) (x1 : Int32) (x2 : Int32) : Int32 × fl_M :=
  if (g_GR_has M x1) = 0 then ((0, M)) else (if ((hg_TR_becomeSuspended M (24 + 2 * x1.toNatClampNeg) x2).1) = 0 then ((0, (hg_TR_becomeSuspended M (24 + 2 * x1.toNatClampNeg) x2).2)) else ((1, (hg_TR_becomeSuspended M (24 + 2 * x1.toNatClampNeg) x2).2)))
set_option maxHeartbeats 4000000 in
set_option maxRecDepth 100000 in
theorem c_FL_suspend (l : Launch) {D : va_G} {ad : Nat → Nat} {cA : Nat → ClassId} {st : Nat → Nat} (hi : fl_inj ad 88) (M : fl_M) (x1 : Int32) (x2 : Int32) (hbg : nn (M.1 10 2)) (hb16 : (M.1 10 2).toNatClampNeg ≤ 16) (hz2 : x2 &&& 1 = x2) : Met l y_FL_suspend w_FL_suspend ({ frames := 2, cells := 0, slots := 0, locals := 42 } : Room) (va_Pc [.ref (ad 0), .int x1, .int x2] (fl_B D cls (xt cA) (xSL st) xFN xMN ad (xc ad cA) 88 M)) (va_Qi (fun r M' => r = (g_FL_suspend M x1 x2).1 ∧ M' = ((g_FL_suspend M x1 x2).2)) (fl_E D cls ad (xc ad cA) 88) (fl_A ad 88)) 0 0 (fl_A ad 88) := by
  refine Met.ofW (cc := b_FL_suspend) (maxL := 3) (ret := (some .boolean)) (by decide) rfl ?_
  intro p e s m args below meth c s₁ B hml hv
  obtain ⟨rfl, hP, hK, hSt, hN⟩ := hv
  have hx := B.exec
  have hb := B.bytes
  have hr := B.returns
  have hts := atoms_spec (ws := w_FL_suspend) B.pre
  have hown : s.vm.findClass "FarLink" = some m.cls := findClass_of_methodNamed B.named
  have hlocks := B.notSynchronized
  have hS : va_S (fl_A ad 88) s.heap s.heap [] := va_S.rf
  have hl := lv_entry ([.ref (ad 0), .int x1, .int x2]) (n := 3) (Nat.le_of_ble_eq_true rfl)
  rw [lg_entry_eq]
  generalize (lg_sl ([.ref (ad 0), .int x1, .int x2]) ++ List.replicate (3 - (lg_sl ([.ref (ad 0), .int x1, .int x2])).length) Slot.unset).toArray = ls at hl ⊢
  have hl : lv_has ls 3 [(0, .ref (ad 0)), (1, .int x1), (2, .int x2)] := hl
  have hG := g_FL_suspend.eq_1 M x1 x2
  refine lv_aload_n hx hb d_FL_suspend_0 rfl (lv_at hl 0 rfl) ?_
  refine gg_FL (k := 3) (v := .ref (ad 10)) hx hb hts hown hK hP  (hts _ (List.mem_cons_of_mem _ tw_285)) (by decide) rfl rfl d_FL_suspend_1 ?_
  refine lv_iload_n hx hb d_FL_suspend_4 rfl (lv_at hl 1 rfl) ?_
  refine fl_calli (va_runV (As := [.int x1]) (rest := []) ⟨hx, hb, hml, hown, hts⟩ (c_GR_has l hi M x1) (kv_GR_has hts (hts _ (List.mem_cons_of_mem _ tw_331)) ⟨Nat.le_of_ble_eq_true rfl, Nat.le_of_ble_eq_true rfl⟩) (fl_preV hK hSt hN hS hP (by decide) (kg_GR) rfl) rfl rfl hl.1 rfl (lv_room (Nat.le_of_ble_eq_true rfl)) d_FL_suspend_5 ⟨Nat.zero_le _, Nat.zero_le _⟩) hS (fun H locs hP hS => ?_)
  refine lv_if_eq (tgt := 31) hx hb d_FL_suspend_8 (by decide) (fun h_1 => ?_) (fun h_1 => ?_)
  ·
    have hG := hG.trans (if_pos h_1)
    refine lv_iconst (v := 0) hx hb d_FL_suspend_31 (by decide) ?_
    exact fl_zret hx hb hr hlocks hP hS (rfl) (congrArg Prod.fst hG).symm (by rw [hG]) d_FL_suspend_32
  ·
    have hG := hG.trans (if_neg h_1)
    refine lv_aload_n hx hb d_FL_suspend_11 rfl (lv_at hl 0 rfl) ?_
    refine gg_FL (k := 3) (v := .ref (ad 10)) hx hb hts hown hK hP  (hts _ (List.mem_cons_of_mem _ tw_285)) (by decide) rfl rfl d_FL_suspend_12 ?_
    refine gg_GRN (k := 1) (v := .ref (ad 14)) hx hb hts hown hK hP  (hN.f 9 rfl) (by decide) rfl rfl d_FL_suspend_15 ?_
    refine lv_iload_n hx hb d_FL_suspend_18 rfl (lv_at hl 1 rfl) ?_
    have hs_2 : vp_in x1 16 := has_in hbg hb16 (by assumption)
    refine ar_TRS hx hb hK hP hs_2 d_FL_suspend_19 ?_
    refine lv_iload_n hx hb d_FL_suspend_20 rfl (lv_at hl 2 rfl) ?_
    have hP : va_P D cls (fl_w ad (xc ad cA) 88 (pTR M (24 + 2 * x1.toNatClampNeg) (M.1 (24 + 2 * x1.toNatClampNeg)) (M.1 ((24 + 2 * x1.toNatClampNeg) + 1)))) H := by rw [id_TR]; exact hP
    refine fl_calli (va_runV (As := [.int x2]) (rest := []) ⟨hx, hb, hml, hown, hts⟩ (c_TR_becomeSuspended l hi (is_TRof hs_2) M (M.1 (24 + 2 * x1.toNatClampNeg)) (M.1 ((24 + 2 * x1.toNatClampNeg) + 1)) x2 (by assumption)) (kv_TR_becomeSuspended hts (hts _ (List.mem_cons_of_mem _ tw_345)) ⟨Nat.le_of_ble_eq_true rfl, Nat.le_of_ble_eq_true rfl⟩) (fl_preV hK hSt hN hS hP (lt_TR (is_TRof hs_2)) (kc_TR (is_TRof hs_2)) rfl) rfl rfl hl.1 rfl (lv_room (Nat.le_of_ble_eq_true rfl)) d_FL_suspend_21 ⟨Nat.zero_le _, Nat.zero_le _⟩) hS (fun H locs hP hS => ?_)
    have hP : va_P D cls (fl_w ad (xc ad cA) 88 (hg_TR_becomeSuspended M (24 + 2 * x1.toNatClampNeg) x2).2) H := hP
    refine lv_if_eq (tgt := 31) hx hb d_FL_suspend_24 (by decide) (fun h_3 => ?_) (fun h_3 => ?_)
    ·
      have hG := hG.trans (if_pos h_3)
      refine lv_iconst (v := 0) hx hb d_FL_suspend_31 (by decide) ?_
      exact fl_zret hx hb hr hlocks hP hS (rfl) (congrArg Prod.fst hG).symm (by rw [hG]) d_FL_suspend_32
    ·
      have hG := hG.trans (if_neg h_3)
      refine lv_iconst (v := 1) hx hb d_FL_suspend_27 (by decide) ?_
      refine lv_goto (tgt := 32) hx hb d_FL_suspend_28 (by decide) ?_
      exact fl_zret hx hb hr hlocks hP hS (rfl) (congrArg Prod.fst hG).symm (by rw [hG]) d_FL_suspend_32
theorem z_FL_suspend (M : fl_M) (x1 : Int32) (x2 : Int32) : (g_FL_suspend M x1 x2).1 &&& 1 = (g_FL_suspend M x1 x2).1 := by
  unfold g_FL_suspend
  repeat (first | split | with_reducible exact z_GR_has .. | with_reducible exact z_TR_becomeSuspended .. | (show (0 : Int32) &&& 1 = 0; rfl) | (show (1 : Int32) &&& 1 = 1; rfl) | rfl)
theorem hd_FL_suspend : y_FL_suspend.cls ≠ "java/lang/invoke/MethodHandle" ∧ y_FL_suspend.cls ≠ "java/lang/invoke/VarHandle" ∧ (parseMethodDescriptor y_FL_suspend.desc).map (fun d => d.parameters.length) = some 2 := by decide +kernel
theorem kv_FL_suspend {R : Room} {s : State} {args : Array Value} {c0 : Cond} {own : String} {index : Nat} (hts : ∀ w ∈ c0 :: gw, w.before args s = true) (hl : (Cond.methodLink own index y_FL_suspend).before args s = true) (hR : 2 + 1 ≤ R.frames ∧ 8 + (3 + 11) + 42 ≤ R.locals) : CallW R s args own "FarLink" index y_FL_suspend b_FL_suspend 3 (some .boolean) w_FL_suspend ({ frames := 2, cells := 0, slots := 0, locals := 42 } : Room) 0 0 2 := ⟨callB_of 2 hts (gw_in tw_344) rfl rfl rfl (hts _ (List.mem_cons_of_mem _ tw_1)) hl hd_FL_suspend hR, hts _ (List.mem_cons_of_mem _ tw_342), hts _ (List.mem_cons_of_mem _ tw_343)⟩
def hg_WY_turnNext (M : fl_M) (q : Nat) (x1 : Int64) : fl_M := pWY M q ((g_WY_turnNext (M.1 q) (M.2 q) (M.2 (q + 1)) x1).1) ((g_WY_turnNext (M.1 q) (M.2 q) (M.2 (q + 1)) x1).2.1) ((g_WY_turnNext (M.1 q) (M.2 q) (M.2 (q + 1)) x1).2.2)
def g_FL_noise (M : fl_M) (x1 : Int32) (x2 : Int64) : fl_M :=
  (hg_WY_turnNext M (g_FL_way x1) x2)
set_option maxHeartbeats 4000000 in
set_option maxRecDepth 100000 in
theorem c_FL_noise (l : Launch) {D : va_G} {ad : Nat → Nat} {cA : Nat → ClassId} {st : Nat → Nat} (hi : fl_inj ad 88) (M : fl_M) (x1 : Int32) (x2 : Int64) : Met l y_FL_noise w_FL_noise ({ frames := 1, cells := 0, slots := 0, locals := 22 } : Room) (va_Pc [.ref (ad 0), .int x1, .long x2] (fl_B D cls (xt cA) (xSL st) xFN xMN ad (xc ad cA) 88 M)) (va_Qv (fun M' => M' = (g_FL_noise M x1 x2)) (fl_E D cls ad (xc ad cA) 88) (fl_A ad 88)) 0 0 (fl_A ad 88) := by
  refine Met.ofW (cc := b_FL_noise) (maxL := 4) (ret := none) (by decide) rfl ?_
  intro p e s m args below meth c s₁ B hml hv
  obtain ⟨rfl, hP, hK, hSt, hN⟩ := hv
  have hx := B.exec
  have hb := B.bytes
  have hr := B.returns
  have hts := atoms_spec (ws := w_FL_noise) B.pre
  have hown : s.vm.findClass "FarLink" = some m.cls := findClass_of_methodNamed B.named
  have hlocks := B.notSynchronized
  have hS : va_S (fl_A ad 88) s.heap s.heap [] := va_S.rf
  have hl := lv_entry ([.ref (ad 0), .int x1, .long x2]) (n := 4) (Nat.le_of_ble_eq_true rfl)
  rw [lg_entry_eq]
  generalize (lg_sl ([.ref (ad 0), .int x1, .long x2]) ++ List.replicate (4 - (lg_sl ([.ref (ad 0), .int x1, .long x2])).length) Slot.unset).toArray = ls at hl ⊢
  have hl : lv_has ls 4 [(0, .ref (ad 0)), (1, .int x1), (2, .long x2)] := hl
  have hG := g_FL_noise.eq_1 M x1 x2
  refine lv_aload_n hx hb d_FL_noise_0 rfl (lv_at hl 0 rfl) ?_
  refine lv_iload_n hx hb d_FL_noise_1 rfl (lv_at hl 1 rfl) ?_
  refine fl_callr (va_runV (As := [.int x1]) (rest := []) ⟨hx, hb, hml, hown, hts⟩ (c_FL_way l hi M x1) (kv_FL_way hts (hts _ (List.mem_cons_of_mem _ tw_353)) ⟨Nat.le_of_ble_eq_true rfl, Nat.le_of_ble_eq_true rfl⟩) (fl_preV hK hSt hN hS hP (by decide) (kg_FL) rfl) rfl rfl hl.1 rfl (lv_room (Nat.le_of_ble_eq_true rfl)) d_FL_noise_2 ⟨Nat.zero_le _, Nat.zero_le _⟩) hS (fun H locs hP hS => ?_)
  refine lv_lload_n hx hb d_FL_noise_5 rfl (lv_at hl 2 rfl) ?_
  have hP : va_P D cls (fl_w ad (xc ad cA) 88 (pWY M (g_FL_way x1) (M.1 (g_FL_way x1)) (M.2 (g_FL_way x1)) (M.2 ((g_FL_way x1) + 1)))) H := by rw [id_WY]; exact hP
  refine fl_callv (va_runV (As := [.long x2]) (rest := []) ⟨hx, hb, hml, hown, hts⟩ (c_WY_turnNext l hi (is_way x1) M (M.1 (g_FL_way x1)) (M.2 (g_FL_way x1)) (M.2 ((g_FL_way x1) + 1)) x2) (kv_WY_turnNext hts (hts _ (List.mem_cons_of_mem _ tw_357)) ⟨Nat.le_of_ble_eq_true rfl, Nat.le_of_ble_eq_true rfl⟩) (fl_preV hK hSt hN hS hP (lt_WY (is_way x1)) (kc_WY (is_way x1)) rfl) rfl rfl hl.1 rfl (lv_room (Nat.le_of_ble_eq_true rfl)) d_FL_noise_6 ⟨Nat.zero_le _, Nat.zero_le _⟩) hS (fun H locs hP hS => ?_)
  have hP : va_P D cls (fl_w ad (xc ad cA) 88 (hg_WY_turnNext M (g_FL_way x1) x2)) H := hP
  exact fl_vret hx hb hr hlocks hP hS (by rw [hG]) d_FL_noise_9
theorem hd_FL_noise : y_FL_noise.cls ≠ "java/lang/invoke/MethodHandle" ∧ y_FL_noise.cls ≠ "java/lang/invoke/VarHandle" ∧ (parseMethodDescriptor y_FL_noise.desc).map (fun d => d.parameters.length) = some 2 := by decide +kernel
theorem kv_FL_noise {R : Room} {s : State} {args : Array Value} {c0 : Cond} {own : String} {index : Nat} (hts : ∀ w ∈ c0 :: gw, w.before args s = true) (hl : (Cond.methodLink own index y_FL_noise).before args s = true) (hR : 1 + 1 ≤ R.frames ∧ 8 + (4 + 11) + 22 ≤ R.locals) : CallW R s args own "FarLink" index y_FL_noise b_FL_noise 4 none w_FL_noise ({ frames := 1, cells := 0, slots := 0, locals := 22 } : Room) 0 0 2 := ⟨callB_of 2 hts (gw_in tw_352) rfl rfl rfl (hts _ (List.mem_cons_of_mem _ tw_1)) hl hd_FL_noise hR, hts _ (List.mem_cons_of_mem _ tw_350), hts _ (List.mem_cons_of_mem _ tw_351)⟩
def g_FL_outage (M : fl_M) (x1 : Int32) (x2 : Int32) : Int32 × fl_M :=
  if (g_FL_isBelow x2 201) = 0 then ((0, M)) else ((1, (fl_i M (g_FL_way x1) 4 x2)))
set_option maxHeartbeats 4000000 in
set_option maxRecDepth 100000 in
theorem c_FL_outage (l : Launch) {D : va_G} {ad : Nat → Nat} {cA : Nat → ClassId} {st : Nat → Nat} (hi : fl_inj ad 88) (M : fl_M) (x1 : Int32) (x2 : Int32) : Met l y_FL_outage w_FL_outage ({ frames := 1, cells := 0, slots := 0, locals := 21 } : Room) (va_Pc [.ref (ad 0), .int x1, .int x2] (fl_B D cls (xt cA) (xSL st) xFN xMN ad (xc ad cA) 88 M)) (va_Qi (fun r M' => r = (g_FL_outage M x1 x2).1 ∧ M' = ((g_FL_outage M x1 x2).2)) (fl_E D cls ad (xc ad cA) 88) (fl_A ad 88)) 0 0 (fl_A ad 88) := by
  refine Met.ofW (cc := b_FL_outage) (maxL := 3) (ret := (some .boolean)) (by decide) rfl ?_
  intro p e s m args below meth c s₁ B hml hv
  obtain ⟨rfl, hP, hK, hSt, hN⟩ := hv
  have hx := B.exec
  have hb := B.bytes
  have hr := B.returns
  have hts := atoms_spec (ws := w_FL_outage) B.pre
  have hown : s.vm.findClass "FarLink" = some m.cls := findClass_of_methodNamed B.named
  have hlocks := B.notSynchronized
  have hS : va_S (fl_A ad 88) s.heap s.heap [] := va_S.rf
  have hl := lv_entry ([.ref (ad 0), .int x1, .int x2]) (n := 3) (Nat.le_of_ble_eq_true rfl)
  rw [lg_entry_eq]
  generalize (lg_sl ([.ref (ad 0), .int x1, .int x2]) ++ List.replicate (3 - (lg_sl ([.ref (ad 0), .int x1, .int x2])).length) Slot.unset).toArray = ls at hl ⊢
  have hl : lv_has ls 3 [(0, .ref (ad 0)), (1, .int x1), (2, .int x2)] := hl
  have hG := g_FL_outage.eq_1 M x1 x2
  refine lv_iload_n hx hb d_FL_outage_0 rfl (lv_at hl 2 rfl) ?_
  refine lv_sipush (v := 201) hx hb d_FL_outage_1 (by decide) ?_
  refine fl_calli (va_runS (As := [.int x2, .int 201]) (rest := []) ⟨hx, hb, hml, hown, hts⟩ (c_FL_isBelow l hi M x2 201) (kv_FL_isBelow hts (hts _ (List.mem_cons_of_mem _ tw_305)) ⟨Nat.le_of_ble_eq_true rfl, Nat.le_of_ble_eq_true rfl⟩) (fl_preS hK hSt hN hS hP) rfl rfl hl.1 rfl (lv_room (Nat.le_of_ble_eq_true rfl)) d_FL_outage_4 ⟨Nat.zero_le _, Nat.zero_le _⟩) hS (fun H locs hP hS => ?_)
  refine lv_if_ne (tgt := 12) hx hb d_FL_outage_7 (by decide) (fun h_1 => ?_) (fun h_1 => ?_)
  ·
    have hG := hG.trans (if_neg h_1)
    refine lv_aload_n hx hb d_FL_outage_12 rfl (lv_at hl 0 rfl) ?_
    refine lv_iload_n hx hb d_FL_outage_13 rfl (lv_at hl 1 rfl) ?_
    refine fl_callr (va_runV (As := [.int x1]) (rest := []) ⟨hx, hb, hml, hown, hts⟩ (c_FL_way l hi M x1) (kv_FL_way hts (hts _ (List.mem_cons_of_mem _ tw_353)) ⟨Nat.le_of_ble_eq_true rfl, Nat.le_of_ble_eq_true rfl⟩) (fl_preV hK hSt hN hS hP (by decide) (kg_FL) rfl) rfl rfl hl.1 rfl (lv_room (Nat.le_of_ble_eq_true rfl)) d_FL_outage_14 ⟨Nat.zero_le _, Nat.zero_le _⟩) hS (fun H locs hP hS => ?_)
    refine lv_iload_n hx hb d_FL_outage_17 rfl (lv_at hl 2 rfl) ?_
    refine pg_WYN (k := 4) hx hb hts hown hK hi hP hS (is_way x1) (hN.f 0 rfl) (by decide) rfl rfl rfl rfl (Nat.le_of_ble_eq_true rfl) rfl d_FL_outage_18 (fun H locs hP hS => ?_)
    refine lv_iconst (v := 1) hx hb d_FL_outage_21 (by decide) ?_
    exact fl_zret hx hb hr hlocks hP hS (rfl) (congrArg Prod.fst hG).symm (by rw [hG]) d_FL_outage_22
  ·
    have hG := hG.trans (if_pos h_1)
    refine lv_iconst (v := 0) hx hb d_FL_outage_10 (by decide) ?_
    exact fl_zret hx hb hr hlocks hP hS (rfl) (congrArg Prod.fst hG).symm (by rw [hG]) d_FL_outage_11
theorem z_FL_outage (M : fl_M) (x1 : Int32) (x2 : Int32) : (g_FL_outage M x1 x2).1 &&& 1 = (g_FL_outage M x1 x2).1 := by
  unfold g_FL_outage
  repeat (first | split | with_reducible exact z_FL_isBelow .. | (show (0 : Int32) &&& 1 = 0; rfl) | (show (1 : Int32) &&& 1 = 1; rfl) | rfl)
theorem hd_FL_outage : y_FL_outage.cls ≠ "java/lang/invoke/MethodHandle" ∧ y_FL_outage.cls ≠ "java/lang/invoke/VarHandle" ∧ (parseMethodDescriptor y_FL_outage.desc).map (fun d => d.parameters.length) = some 2 := by decide +kernel
theorem kv_FL_outage {R : Room} {s : State} {args : Array Value} {c0 : Cond} {own : String} {index : Nat} (hts : ∀ w ∈ c0 :: gw, w.before args s = true) (hl : (Cond.methodLink own index y_FL_outage).before args s = true) (hR : 1 + 1 ≤ R.frames ∧ 8 + (3 + 11) + 21 ≤ R.locals) : CallW R s args own "FarLink" index y_FL_outage b_FL_outage 3 (some .boolean) w_FL_outage ({ frames := 1, cells := 0, slots := 0, locals := 21 } : Room) 0 0 2 := ⟨callB_of 2 hts (gw_in tw_366) rfl rfl rfl (hts _ (List.mem_cons_of_mem _ tw_1)) hl hd_FL_outage hR, hts _ (List.mem_cons_of_mem _ tw_364), hts _ (List.mem_cons_of_mem _ tw_365)⟩
def g_FL_time (M : fl_M) : Int32 :=
  M.1 0 5
set_option maxHeartbeats 4000000 in
set_option maxRecDepth 100000 in
theorem c_FL_time (l : Launch) {D : va_G} {ad : Nat → Nat} {cA : Nat → ClassId} {st : Nat → Nat} (hi : fl_inj ad 88) (M : fl_M) : Met l y_FL_time w_FL_time ({ frames := 0, cells := 0, slots := 0, locals := 0 } : Room) (va_Pc [.ref (ad 0)] (fl_B D cls (xt cA) (xSL st) xFN xMN ad (xc ad cA) 88 M)) (va_Qi (fun r M' => r = (g_FL_time M) ∧ M' = M) (fl_E D cls ad (xc ad cA) 88) (fl_A ad 88)) 0 0 (fl_A ad 88) := by
  refine Met.ofW (cc := b_FL_time) (maxL := 1) (ret := (some .int)) (by decide) rfl ?_
  intro p e s m args below meth c s₁ B hml hv
  obtain ⟨rfl, hP, hK, hSt, hN⟩ := hv
  have hx := B.exec
  have hb := B.bytes
  have hr := B.returns
  have hts := atoms_spec (ws := w_FL_time) B.pre
  have hown : s.vm.findClass "FarLink" = some m.cls := findClass_of_methodNamed B.named
  have hlocks := B.notSynchronized
  have hS : va_S (fl_A ad 88) s.heap s.heap [] := va_S.rf
  have hl := lv_entry ([.ref (ad 0)]) (n := 1) (Nat.le_of_ble_eq_true rfl)
  rw [lg_entry_eq]
  generalize (lg_sl ([.ref (ad 0)]) ++ List.replicate (1 - (lg_sl ([.ref (ad 0)])).length) Slot.unset).toArray = ls at hl ⊢
  have hl : lv_has ls 1 [(0, .ref (ad 0))] := hl
  have hG := g_FL_time.eq_1 M
  refine lv_aload_n hx hb d_FL_time_0 rfl (lv_at hl 0 rfl) ?_
  refine gg_FL (k := 5) (v := .int (M.1 0 5)) hx hb hts hown hK hP  (hts _ (List.mem_cons_of_mem _ tw_287)) (by decide) rfl rfl d_FL_time_1 ?_
  exact fl_iret hx hb hr hlocks hP hS hG.symm rfl d_FL_time_4
theorem hd_FL_time : y_FL_time.cls ≠ "java/lang/invoke/MethodHandle" ∧ y_FL_time.cls ≠ "java/lang/invoke/VarHandle" ∧ (parseMethodDescriptor y_FL_time.desc).map (fun d => d.parameters.length) = some 0 := by decide +kernel
theorem kv_FL_time {R : Room} {s : State} {args : Array Value} {c0 : Cond} {own : String} {index : Nat} (hts : ∀ w ∈ c0 :: gw, w.before args s = true) (hl : (Cond.methodLink own index y_FL_time).before args s = true) (hR : 0 + 1 ≤ R.frames ∧ 8 + (1 + 11) + 0 ≤ R.locals) : CallW R s args own "FarLink" index y_FL_time b_FL_time 1 (some .int) w_FL_time ({ frames := 0, cells := 0, slots := 0, locals := 0 } : Room) 0 0 0 := ⟨callB_of 0 hts (gw_in tw_689) rfl rfl rfl (hts _ (List.mem_cons_of_mem _ tw_1)) hl hd_FL_time hR, hts _ (List.mem_cons_of_mem _ tw_687), hts _ (List.mem_cons_of_mem _ tw_688)⟩
def g_FL_outcome (M : fl_M) (x1 : Int32) (x2 : Int32) : Int32 :=
  if x1 = 0 then (if (g_GR_has M x2) = 0 then ((-1)) else ((g_TR_result (M.1 (24 + 2 * x2.toNatClampNeg)) (M.1 ((24 + 2 * x2.toNatClampNeg) + 1))))) else (if (g_FL_isBelow x2 16) = 0 then ((-1)) else ((g_CR_result (M.1 (56 + 2 * x2.toNatClampNeg)) (M.1 ((56 + 2 * x2.toNatClampNeg) + 1)))))
set_option maxHeartbeats 4000000 in
set_option maxRecDepth 100000 in
theorem c_FL_outcome (l : Launch) {D : va_G} {ad : Nat → Nat} {cA : Nat → ClassId} {st : Nat → Nat} (hi : fl_inj ad 88) (M : fl_M) (x1 : Int32) (x2 : Int32) (hbg : nn (M.1 10 2)) (hb16 : (M.1 10 2).toNatClampNeg ≤ 16) : Met l y_FL_outcome w_FL_outcome ({ frames := 2, cells := 0, slots := 0, locals := 42 } : Room) (va_Pc [.ref (ad 0), .int x1, .int x2] (fl_B D cls (xt cA) (xSL st) xFN xMN ad (xc ad cA) 88 M)) (va_Qi (fun r M' => r = (g_FL_outcome M x1 x2) ∧ M' = M) (fl_E D cls ad (xc ad cA) 88) (fl_A ad 88)) 0 0 (fl_A ad 88) := by
  refine Met.ofW (cc := b_FL_outcome) (maxL := 3) (ret := (some .int)) (by decide) rfl ?_
  intro p e s m args below meth c s₁ B hml hv
  obtain ⟨rfl, hP, hK, hSt, hN⟩ := hv
  have hx := B.exec
  have hb := B.bytes
  have hr := B.returns
  have hts := atoms_spec (ws := w_FL_outcome) B.pre
  have hown : s.vm.findClass "FarLink" = some m.cls := findClass_of_methodNamed B.named
  have hlocks := B.notSynchronized
  have hS : va_S (fl_A ad 88) s.heap s.heap [] := va_S.rf
  have hl := lv_entry ([.ref (ad 0), .int x1, .int x2]) (n := 3) (Nat.le_of_ble_eq_true rfl)
  rw [lg_entry_eq]
  generalize (lg_sl ([.ref (ad 0), .int x1, .int x2]) ++ List.replicate (3 - (lg_sl ([.ref (ad 0), .int x1, .int x2])).length) Slot.unset).toArray = ls at hl ⊢
  have hl : lv_has ls 3 [(0, .ref (ad 0)), (1, .int x1), (2, .int x2)] := hl
  have hG := g_FL_outcome.eq_1 M x1 x2
  refine lv_iload_n hx hb d_FL_outcome_0 rfl (lv_at hl 1 rfl) ?_
  refine lv_if_eq (tgt := 30) hx hb d_FL_outcome_1 (by decide) (fun h_1 => ?_) (fun h_1 => ?_)
  ·
    have hG := hG.trans (if_pos h_1)
    refine lv_aload_n hx hb d_FL_outcome_30 rfl (lv_at hl 0 rfl) ?_
    refine gg_FL (k := 3) (v := .ref (ad 10)) hx hb hts hown hK hP  (hts _ (List.mem_cons_of_mem _ tw_285)) (by decide) rfl rfl d_FL_outcome_31 ?_
    refine lv_iload_n hx hb d_FL_outcome_34 rfl (lv_at hl 2 rfl) ?_
    refine fl_calli (va_runV (As := [.int x2]) (rest := []) ⟨hx, hb, hml, hown, hts⟩ (c_GR_has l hi M x2) (kv_GR_has hts (hts _ (List.mem_cons_of_mem _ tw_331)) ⟨Nat.le_of_ble_eq_true rfl, Nat.le_of_ble_eq_true rfl⟩) (fl_preV hK hSt hN hS hP (by decide) (kg_GR) rfl) rfl rfl hl.1 rfl (lv_room (Nat.le_of_ble_eq_true rfl)) d_FL_outcome_35 ⟨Nat.zero_le _, Nat.zero_le _⟩) hS (fun H locs hP hS => ?_)
    refine lv_if_eq (tgt := 56) hx hb d_FL_outcome_38 (by decide) (fun h_2 => ?_) (fun h_2 => ?_)
    ·
      have hG := hG.trans (if_pos h_2)
      refine lv_iconst (v := -1) hx hb d_FL_outcome_56 (by decide) ?_
      exact fl_iret hx hb hr hlocks hP hS hG.symm rfl d_FL_outcome_57
    ·
      have hG := hG.trans (if_neg h_2)
      refine lv_aload_n hx hb d_FL_outcome_41 rfl (lv_at hl 0 rfl) ?_
      refine gg_FL (k := 3) (v := .ref (ad 10)) hx hb hts hown hK hP  (hts _ (List.mem_cons_of_mem _ tw_285)) (by decide) rfl rfl d_FL_outcome_42 ?_
      refine gg_GRN (k := 1) (v := .ref (ad 14)) hx hb hts hown hK hP  (hN.f 9 rfl) (by decide) rfl rfl d_FL_outcome_45 ?_
      refine lv_iload_n hx hb d_FL_outcome_48 rfl (lv_at hl 2 rfl) ?_
      have hs_3 : vp_in x2 16 := has_in hbg hb16 (by assumption)
      refine ar_TRS hx hb hK hP hs_3 d_FL_outcome_49 ?_
      have hP : va_P D cls (fl_w ad (xc ad cA) 88 (pTR M (24 + 2 * x2.toNatClampNeg) (M.1 (24 + 2 * x2.toNatClampNeg)) (M.1 ((24 + 2 * x2.toNatClampNeg) + 1)))) H := by rw [id_TR]; exact hP
      refine fl_calli (va_runV (As := []) (rest := []) ⟨hx, hb, hml, hown, hts⟩ (c_TR_result l hi (is_TRof hs_3) M (M.1 (24 + 2 * x2.toNatClampNeg)) (M.1 ((24 + 2 * x2.toNatClampNeg) + 1))) (kv_TR_result hts (hts _ (List.mem_cons_of_mem _ tw_698)) ⟨Nat.le_of_ble_eq_true rfl, Nat.le_of_ble_eq_true rfl⟩) (fl_preV hK hSt hN hS hP (lt_TR (is_TRof hs_3)) (kc_TR (is_TRof hs_3)) rfl) rfl rfl hl.1 rfl (lv_room (Nat.le_of_ble_eq_true rfl)) d_FL_outcome_50 ⟨Nat.zero_le _, Nat.zero_le _⟩) hS (fun H locs hP hS => ?_)
      have hP : va_P D cls (fl_w ad (xc ad cA) 88 M) H := by rw [id_TR] at hP; exact hP
      refine lv_goto (tgt := 57) hx hb d_FL_outcome_53 (by decide) ?_
      exact fl_iret hx hb hr hlocks hP hS hG.symm rfl d_FL_outcome_57
  ·
    have hG := hG.trans (if_neg h_1)
    refine lv_iload_n hx hb d_FL_outcome_4 rfl (lv_at hl 2 rfl) ?_
    refine lv_bipush (v := 16) hx hb d_FL_outcome_5 (by decide) ?_
    refine fl_calli (va_runS (As := [.int x2, .int 16]) (rest := []) ⟨hx, hb, hml, hown, hts⟩ (c_FL_isBelow l hi M x2 16) (kv_FL_isBelow hts (hts _ (List.mem_cons_of_mem _ tw_305)) ⟨Nat.le_of_ble_eq_true rfl, Nat.le_of_ble_eq_true rfl⟩) (fl_preS hK hSt hN hS hP) rfl rfl hl.1 rfl (lv_room (Nat.le_of_ble_eq_true rfl)) d_FL_outcome_7 ⟨Nat.zero_le _, Nat.zero_le _⟩) hS (fun H locs hP hS => ?_)
    refine lv_if_eq (tgt := 28) hx hb d_FL_outcome_10 (by decide) (fun h_4 => ?_) (fun h_4 => ?_)
    ·
      have hG := hG.trans (if_pos h_4)
      refine lv_iconst (v := -1) hx hb d_FL_outcome_28 (by decide) ?_
      exact fl_iret hx hb hr hlocks hP hS hG.symm rfl d_FL_outcome_29
    ·
      have hG := hG.trans (if_neg h_4)
      refine lv_aload_n hx hb d_FL_outcome_13 rfl (lv_at hl 0 rfl) ?_
      refine gg_FL (k := 4) (v := .ref (ad 15)) hx hb hts hown hK hP  (hts _ (List.mem_cons_of_mem _ tw_286)) (by decide) rfl rfl d_FL_outcome_14 ?_
      refine gg_CTN (k := 1) (v := .ref (ad 17)) hx hb hts hown hK hP  (hN.f 17 rfl) (by decide) rfl rfl d_FL_outcome_17 ?_
      refine lv_iload_n hx hb d_FL_outcome_20 rfl (lv_at hl 2 rfl) ?_
      have hs_5 : vp_in x2 16 := by first | assumption | exact below_in16 (by assumption)
      refine ar_CRS hx hb hK hP hs_5 d_FL_outcome_21 ?_
      have hP : va_P D cls (fl_w ad (xc ad cA) 88 (pCR M (56 + 2 * x2.toNatClampNeg) (M.1 (56 + 2 * x2.toNatClampNeg)) (M.1 ((56 + 2 * x2.toNatClampNeg) + 1)))) H := by rw [id_CR]; exact hP
      refine fl_calli (va_runV (As := []) (rest := []) ⟨hx, hb, hml, hown, hts⟩ (c_CR_result l hi (is_CRof hs_5) M (M.1 (56 + 2 * x2.toNatClampNeg)) (M.1 ((56 + 2 * x2.toNatClampNeg) + 1))) (kv_CR_result hts (hts _ (List.mem_cons_of_mem _ tw_694)) ⟨Nat.le_of_ble_eq_true rfl, Nat.le_of_ble_eq_true rfl⟩) (fl_preV hK hSt hN hS hP (lt_CR (is_CRof hs_5)) (kc_CR (is_CRof hs_5)) rfl) rfl rfl hl.1 rfl (lv_room (Nat.le_of_ble_eq_true rfl)) d_FL_outcome_22 ⟨Nat.zero_le _, Nat.zero_le _⟩) hS (fun H locs hP hS => ?_)
      have hP : va_P D cls (fl_w ad (xc ad cA) 88 M) H := by rw [id_CR] at hP; exact hP
      refine lv_goto (tgt := 29) hx hb d_FL_outcome_25 (by decide) ?_
      exact fl_iret hx hb hr hlocks hP hS hG.symm rfl d_FL_outcome_29
theorem hd_FL_outcome : y_FL_outcome.cls ≠ "java/lang/invoke/MethodHandle" ∧ y_FL_outcome.cls ≠ "java/lang/invoke/VarHandle" ∧ (parseMethodDescriptor y_FL_outcome.desc).map (fun d => d.parameters.length) = some 2 := by decide +kernel
theorem kv_FL_outcome {R : Room} {s : State} {args : Array Value} {c0 : Cond} {own : String} {index : Nat} (hts : ∀ w ∈ c0 :: gw, w.before args s = true) (hl : (Cond.methodLink own index y_FL_outcome).before args s = true) (hR : 2 + 1 ≤ R.frames ∧ 8 + (3 + 11) + 42 ≤ R.locals) : CallW R s args own "FarLink" index y_FL_outcome b_FL_outcome 3 (some .int) w_FL_outcome ({ frames := 2, cells := 0, slots := 0, locals := 42 } : Room) 0 0 2 := ⟨callB_of 2 hts (gw_in tw_693) rfl rfl rfl (hts _ (List.mem_cons_of_mem _ tw_1)) hl hd_FL_outcome hR, hts _ (List.mem_cons_of_mem _ tw_691), hts _ (List.mem_cons_of_mem _ tw_692)⟩
def g_FL_taken (M : fl_M) (x1 : Int32) (x2 : Int32) : Int32 :=
  if (g_FL_isBelow x1 16) = 0 then (0) else (if (g_FL_isBelow x2 16) = 0 then (0) else (M.1 ((56 + 2 * x1.toNatClampNeg) + 1) x2.toNatClampNeg))
set_option maxHeartbeats 4000000 in
set_option maxRecDepth 100000 in
theorem c_FL_taken (l : Launch) {D : va_G} {ad : Nat → Nat} {cA : Nat → ClassId} {st : Nat → Nat} (hi : fl_inj ad 88) (M : fl_M) (x1 : Int32) (x2 : Int32) : Met l y_FL_taken w_FL_taken ({ frames := 1, cells := 0, slots := 0, locals := 21 } : Room) (va_Pc [.ref (ad 0), .int x1, .int x2] (fl_B D cls (xt cA) (xSL st) xFN xMN ad (xc ad cA) 88 M)) (va_Qi (fun r M' => r = (g_FL_taken M x1 x2) ∧ M' = M) (fl_E D cls ad (xc ad cA) 88) (fl_A ad 88)) 0 0 (fl_A ad 88) := by
  refine Met.ofW (cc := b_FL_taken) (maxL := 3) (ret := (some .int)) (by decide) rfl ?_
  intro p e s m args below meth c s₁ B hml hv
  obtain ⟨rfl, hP, hK, hSt, hN⟩ := hv
  have hx := B.exec
  have hb := B.bytes
  have hr := B.returns
  have hts := atoms_spec (ws := w_FL_taken) B.pre
  have hown : s.vm.findClass "FarLink" = some m.cls := findClass_of_methodNamed B.named
  have hlocks := B.notSynchronized
  have hS : va_S (fl_A ad 88) s.heap s.heap [] := va_S.rf
  have hl := lv_entry ([.ref (ad 0), .int x1, .int x2]) (n := 3) (Nat.le_of_ble_eq_true rfl)
  rw [lg_entry_eq]
  generalize (lg_sl ([.ref (ad 0), .int x1, .int x2]) ++ List.replicate (3 - (lg_sl ([.ref (ad 0), .int x1, .int x2])).length) Slot.unset).toArray = ls at hl ⊢
  have hl : lv_has ls 3 [(0, .ref (ad 0)), (1, .int x1), (2, .int x2)] := hl
  have hG := g_FL_taken.eq_1 M x1 x2
  refine lv_iload_n hx hb d_FL_taken_0 rfl (lv_at hl 1 rfl) ?_
  refine lv_bipush (v := 16) hx hb d_FL_taken_1 (by decide) ?_
  refine fl_calli (va_runS (As := [.int x1, .int 16]) (rest := []) ⟨hx, hb, hml, hown, hts⟩ (c_FL_isBelow l hi M x1 16) (kv_FL_isBelow hts (hts _ (List.mem_cons_of_mem _ tw_305)) ⟨Nat.le_of_ble_eq_true rfl, Nat.le_of_ble_eq_true rfl⟩) (fl_preS hK hSt hN hS hP) rfl rfl hl.1 rfl (lv_room (Nat.le_of_ble_eq_true rfl)) d_FL_taken_3 ⟨Nat.zero_le _, Nat.zero_le _⟩) hS (fun H locs hP hS => ?_)
  refine lv_if_eq (tgt := 18) hx hb d_FL_taken_6 (by decide) (fun h_1 => ?_) (fun h_1 => ?_)
  ·
    have hG := hG.trans (if_pos h_1)
    refine lv_iconst (v := 0) hx hb d_FL_taken_18 (by decide) ?_
    exact fl_iret hx hb hr hlocks hP hS hG.symm rfl d_FL_taken_19
  ·
    have hG := hG.trans (if_neg h_1)
    refine lv_iload_n hx hb d_FL_taken_9 rfl (lv_at hl 2 rfl) ?_
    refine lv_bipush (v := 16) hx hb d_FL_taken_10 (by decide) ?_
    refine fl_calli (va_runS (As := [.int x2, .int 16]) (rest := []) ⟨hx, hb, hml, hown, hts⟩ (c_FL_isBelow l hi M x2 16) (kv_FL_isBelow hts (hts _ (List.mem_cons_of_mem _ tw_305)) ⟨Nat.le_of_ble_eq_true rfl, Nat.le_of_ble_eq_true rfl⟩) (fl_preS hK hSt hN hS hP) rfl rfl hl.1 rfl (lv_room (Nat.le_of_ble_eq_true rfl)) d_FL_taken_12 ⟨Nat.zero_le _, Nat.zero_le _⟩) hS (fun H locs hP hS => ?_)
    refine lv_if_ne (tgt := 20) hx hb d_FL_taken_15 (by decide) (fun h_2 => ?_) (fun h_2 => ?_)
    ·
      have hG := hG.trans (if_neg h_2)
      refine lv_aload_n hx hb d_FL_taken_20 rfl (lv_at hl 0 rfl) ?_
      refine gg_FL (k := 4) (v := .ref (ad 15)) hx hb hts hown hK hP  (hts _ (List.mem_cons_of_mem _ tw_286)) (by decide) rfl rfl d_FL_taken_21 ?_
      refine gg_CTN (k := 1) (v := .ref (ad 17)) hx hb hts hown hK hP  (hN.f 17 rfl) (by decide) rfl rfl d_FL_taken_24 ?_
      refine lv_iload_n hx hb d_FL_taken_27 rfl (lv_at hl 1 rfl) ?_
      have hs_3 : vp_in x1 16 := by first | assumption | exact below_in16 (by assumption)
      refine ar_CRS hx hb hK hP hs_3 d_FL_taken_28 ?_
      refine gg_CRN (k := 1) (v := .ref (ad ((56 + 2 * x1.toNatClampNeg) + 1))) hx hb hts hown hK hP (is_CRof hs_3) (hN.f 11 rfl) (by decide) rfl rfl d_FL_taken_29 ?_
      refine lv_iload_n hx hb d_FL_taken_32 rfl (lv_at hl 2 rfl) ?_
      refine ag_CRw (v := .int (M.1 ((56 + 2 * x1.toNatClampNeg) + 1) x2.toNatClampNeg)) hx hb hK hP (is_CRof hs_3) (by first | assumption | exact below_in16 (by assumption)) rfl d_FL_taken_33 ?_
      exact fl_iret hx hb hr hlocks hP hS hG.symm rfl d_FL_taken_34
    ·
      have hG := hG.trans (if_pos h_2)
      refine lv_iconst (v := 0) hx hb d_FL_taken_18 (by decide) ?_
      exact fl_iret hx hb hr hlocks hP hS hG.symm rfl d_FL_taken_19
theorem hd_FL_taken : y_FL_taken.cls ≠ "java/lang/invoke/MethodHandle" ∧ y_FL_taken.cls ≠ "java/lang/invoke/VarHandle" ∧ (parseMethodDescriptor y_FL_taken.desc).map (fun d => d.parameters.length) = some 2 := by decide +kernel
theorem kv_FL_taken {R : Room} {s : State} {args : Array Value} {c0 : Cond} {own : String} {index : Nat} (hts : ∀ w ∈ c0 :: gw, w.before args s = true) (hl : (Cond.methodLink own index y_FL_taken).before args s = true) (hR : 1 + 1 ≤ R.frames ∧ 8 + (3 + 11) + 21 ≤ R.locals) : CallW R s args own "FarLink" index y_FL_taken b_FL_taken 3 (some .int) w_FL_taken ({ frames := 1, cells := 0, slots := 0, locals := 21 } : Room) 0 0 2 := ⟨callB_of 2 hts (gw_in tw_705) rfl rfl rfl (hts _ (List.mem_cons_of_mem _ tw_1)) hl hd_FL_taken hR, hts _ (List.mem_cons_of_mem _ tw_703), hts _ (List.mem_cons_of_mem _ tw_704)⟩
def g_FL_missing (M : fl_M) (x1 : Int32) : Int32 :=
  if (g_FL_isBelow x1 16) = 0 then ((-1)) else (if (M.1 (56 + 2 * x1.toNatClampNeg) 2) = 0 then ((-1)) else ((g_CR_missingParts (M.1 (56 + 2 * x1.toNatClampNeg)) (M.1 ((56 + 2 * x1.toNatClampNeg) + 1)))))
set_option maxHeartbeats 4000000 in
set_option maxRecDepth 100000 in
theorem c_FL_missing (l : Launch) {D : va_G} {ad : Nat → Nat} {cA : Nat → ClassId} {st : Nat → Nat} (hi : fl_inj ad 88) (M : fl_M) (x1 : Int32) : Met l y_FL_missing w_FL_missing ({ frames := 1, cells := 0, slots := 0, locals := 21 } : Room) (va_Pc [.ref (ad 0), .int x1] (fl_B D cls (xt cA) (xSL st) xFN xMN ad (xc ad cA) 88 M)) (va_Qi (fun r M' => r = (g_FL_missing M x1) ∧ M' = M) (fl_E D cls ad (xc ad cA) 88) (fl_A ad 88)) 0 0 (fl_A ad 88) := by
  refine Met.ofW (cc := b_FL_missing) (maxL := 2) (ret := (some .int)) (by decide) rfl ?_
  intro p e s m args below meth c s₁ B hml hv
  obtain ⟨rfl, hP, hK, hSt, hN⟩ := hv
  have hx := B.exec
  have hb := B.bytes
  have hr := B.returns
  have hts := atoms_spec (ws := w_FL_missing) B.pre
  have hown : s.vm.findClass "FarLink" = some m.cls := findClass_of_methodNamed B.named
  have hlocks := B.notSynchronized
  have hS : va_S (fl_A ad 88) s.heap s.heap [] := va_S.rf
  have hl := lv_entry ([.ref (ad 0), .int x1]) (n := 2) (Nat.le_of_ble_eq_true rfl)
  rw [lg_entry_eq]
  generalize (lg_sl ([.ref (ad 0), .int x1]) ++ List.replicate (2 - (lg_sl ([.ref (ad 0), .int x1])).length) Slot.unset).toArray = ls at hl ⊢
  have hl : lv_has ls 2 [(0, .ref (ad 0)), (1, .int x1)] := hl
  have hG := g_FL_missing.eq_1 M x1
  refine lv_iload_n hx hb d_FL_missing_0 rfl (lv_at hl 1 rfl) ?_
  refine lv_bipush (v := 16) hx hb d_FL_missing_1 (by decide) ?_
  refine fl_calli (va_runS (As := [.int x1, .int 16]) (rest := []) ⟨hx, hb, hml, hown, hts⟩ (c_FL_isBelow l hi M x1 16) (kv_FL_isBelow hts (hts _ (List.mem_cons_of_mem _ tw_305)) ⟨Nat.le_of_ble_eq_true rfl, Nat.le_of_ble_eq_true rfl⟩) (fl_preS hK hSt hN hS hP) rfl rfl hl.1 rfl (lv_room (Nat.le_of_ble_eq_true rfl)) d_FL_missing_3 ⟨Nat.zero_le _, Nat.zero_le _⟩) hS (fun H locs hP hS => ?_)
  refine lv_if_eq (tgt := 24) hx hb d_FL_missing_6 (by decide) (fun h_1 => ?_) (fun h_1 => ?_)
  ·
    have hG := hG.trans (if_pos h_1)
    refine lv_iconst (v := -1) hx hb d_FL_missing_24 (by decide) ?_
    exact fl_iret hx hb hr hlocks hP hS hG.symm rfl d_FL_missing_25
  ·
    have hG := hG.trans (if_neg h_1)
    refine lv_aload_n hx hb d_FL_missing_9 rfl (lv_at hl 0 rfl) ?_
    refine gg_FL (k := 4) (v := .ref (ad 15)) hx hb hts hown hK hP  (hts _ (List.mem_cons_of_mem _ tw_286)) (by decide) rfl rfl d_FL_missing_10 ?_
    refine gg_CTN (k := 1) (v := .ref (ad 17)) hx hb hts hown hK hP  (hN.f 17 rfl) (by decide) rfl rfl d_FL_missing_13 ?_
    refine lv_iload_n hx hb d_FL_missing_16 rfl (lv_at hl 1 rfl) ?_
    have hs_2 : vp_in x1 16 := by first | assumption | exact below_in16 (by assumption)
    refine ar_CRS hx hb hK hP hs_2 d_FL_missing_17 ?_
    refine gg_CRN (k := 2) (v := .int (M.1 (56 + 2 * x1.toNatClampNeg) 2)) hx hb hts hown hK hP (is_CRof hs_2) (hN.f 13 rfl) (by decide) rfl rfl d_FL_missing_18 ?_
    refine lv_if_ne (tgt := 26) hx hb d_FL_missing_21 (by decide) (fun h_3 => ?_) (fun h_3 => ?_)
    ·
      have hG := hG.trans (if_neg h_3)
      refine lv_aload_n hx hb d_FL_missing_26 rfl (lv_at hl 0 rfl) ?_
      refine gg_FL (k := 4) (v := .ref (ad 15)) hx hb hts hown hK hP  (hts _ (List.mem_cons_of_mem _ tw_286)) (by decide) rfl rfl d_FL_missing_27 ?_
      refine gg_CTN (k := 1) (v := .ref (ad 17)) hx hb hts hown hK hP  (hN.f 17 rfl) (by decide) rfl rfl d_FL_missing_30 ?_
      refine lv_iload_n hx hb d_FL_missing_33 rfl (lv_at hl 1 rfl) ?_
      have hs_4 : vp_in x1 16 := by first | assumption | exact below_in16 (by assumption)
      refine ar_CRS hx hb hK hP hs_4 d_FL_missing_34 ?_
      have hP : va_P D cls (fl_w ad (xc ad cA) 88 (pCR M (56 + 2 * x1.toNatClampNeg) (M.1 (56 + 2 * x1.toNatClampNeg)) (M.1 ((56 + 2 * x1.toNatClampNeg) + 1)))) H := by rw [id_CR]; exact hP
      refine fl_calli (va_runV (As := []) (rest := []) ⟨hx, hb, hml, hown, hts⟩ (c_CR_missingParts l hi (is_CRof hs_4) M (M.1 (56 + 2 * x1.toNatClampNeg)) (M.1 ((56 + 2 * x1.toNatClampNeg) + 1))) (kv_CR_missingParts hts (hts _ (List.mem_cons_of_mem _ tw_710)) ⟨Nat.le_of_ble_eq_true rfl, Nat.le_of_ble_eq_true rfl⟩) (fl_preV hK hSt hN hS hP (lt_CR (is_CRof hs_4)) (kc_CR (is_CRof hs_4)) rfl) rfl rfl hl.1 rfl (lv_room (Nat.le_of_ble_eq_true rfl)) d_FL_missing_35 ⟨Nat.zero_le _, Nat.zero_le _⟩) hS (fun H locs hP hS => ?_)
      have hP : va_P D cls (fl_w ad (xc ad cA) 88 M) H := by rw [id_CR] at hP; exact hP
      exact fl_iret hx hb hr hlocks hP hS hG.symm rfl d_FL_missing_38
    ·
      have hG := hG.trans (if_pos h_3)
      refine lv_iconst (v := -1) hx hb d_FL_missing_24 (by decide) ?_
      exact fl_iret hx hb hr hlocks hP hS hG.symm rfl d_FL_missing_25
theorem hd_FL_missing : y_FL_missing.cls ≠ "java/lang/invoke/MethodHandle" ∧ y_FL_missing.cls ≠ "java/lang/invoke/VarHandle" ∧ (parseMethodDescriptor y_FL_missing.desc).map (fun d => d.parameters.length) = some 1 := by decide +kernel
theorem kv_FL_missing {R : Room} {s : State} {args : Array Value} {c0 : Cond} {own : String} {index : Nat} (hts : ∀ w ∈ c0 :: gw, w.before args s = true) (hl : (Cond.methodLink own index y_FL_missing).before args s = true) (hR : 1 + 1 ≤ R.frames ∧ 8 + (2 + 11) + 21 ≤ R.locals) : CallW R s args own "FarLink" index y_FL_missing b_FL_missing 2 (some .int) w_FL_missing ({ frames := 1, cells := 0, slots := 0, locals := 21 } : Room) 0 0 1 := ⟨callB_of 1 hts (gw_in tw_709) rfl rfl rfl (hts _ (List.mem_cons_of_mem _ tw_1)) hl hd_FL_missing hR, hts _ (List.mem_cons_of_mem _ tw_707), hts _ (List.mem_cons_of_mem _ tw_708)⟩
def g_FL_stored (M : fl_M) (x1 : Int32) (x2 : Int32) : Int32 :=
  if (g_FL_isBelow x1 4) = 0 then (0) else ((g_CT_storedAt M x1 x2))
set_option maxHeartbeats 4000000 in
set_option maxRecDepth 100000 in
theorem c_FL_stored (l : Launch) {D : va_G} {ad : Nat → Nat} {cA : Nat → ClassId} {st : Nat → Nat} (hi : fl_inj ad 88) (M : fl_M) (x1 : Int32) (x2 : Int32) (hsl : ∀ i : Nat, i < 4 → M.1 18 i ≤ 16) : Met l y_FL_stored w_FL_stored ({ frames := 2, cells := 0, slots := 0, locals := 43 } : Room) (va_Pc [.ref (ad 0), .int x1, .int x2] (fl_B D cls (xt cA) (xSL st) xFN xMN ad (xc ad cA) 88 M)) (va_Qi (fun r M' => r = (g_FL_stored M x1 x2) ∧ M' = M) (fl_E D cls ad (xc ad cA) 88) (fl_A ad 88)) 0 0 (fl_A ad 88) := by
  refine Met.ofW (cc := b_FL_stored) (maxL := 3) (ret := (some .int)) (by decide) rfl ?_
  intro p e s m args below meth c s₁ B hml hv
  obtain ⟨rfl, hP, hK, hSt, hN⟩ := hv
  have hx := B.exec
  have hb := B.bytes
  have hr := B.returns
  have hts := atoms_spec (ws := w_FL_stored) B.pre
  have hown : s.vm.findClass "FarLink" = some m.cls := findClass_of_methodNamed B.named
  have hlocks := B.notSynchronized
  have hS : va_S (fl_A ad 88) s.heap s.heap [] := va_S.rf
  have hl := lv_entry ([.ref (ad 0), .int x1, .int x2]) (n := 3) (Nat.le_of_ble_eq_true rfl)
  rw [lg_entry_eq]
  generalize (lg_sl ([.ref (ad 0), .int x1, .int x2]) ++ List.replicate (3 - (lg_sl ([.ref (ad 0), .int x1, .int x2])).length) Slot.unset).toArray = ls at hl ⊢
  have hl : lv_has ls 3 [(0, .ref (ad 0)), (1, .int x1), (2, .int x2)] := hl
  have hG := g_FL_stored.eq_1 M x1 x2
  refine lv_iload_n hx hb d_FL_stored_0 rfl (lv_at hl 1 rfl) ?_
  refine lv_iconst (v := 4) hx hb d_FL_stored_1 (by decide) ?_
  refine fl_calli (va_runS (As := [.int x1, .int 4]) (rest := []) ⟨hx, hb, hml, hown, hts⟩ (c_FL_isBelow l hi M x1 4) (kv_FL_isBelow hts (hts _ (List.mem_cons_of_mem _ tw_305)) ⟨Nat.le_of_ble_eq_true rfl, Nat.le_of_ble_eq_true rfl⟩) (fl_preS hK hSt hN hS hP) rfl rfl hl.1 rfl (lv_room (Nat.le_of_ble_eq_true rfl)) d_FL_stored_2 ⟨Nat.zero_le _, Nat.zero_le _⟩) hS (fun H locs hP hS => ?_)
  refine lv_if_eq (tgt := 20) hx hb d_FL_stored_5 (by decide) (fun h_1 => ?_) (fun h_1 => ?_)
  ·
    have hG := hG.trans (if_pos h_1)
    refine lv_iconst (v := 0) hx hb d_FL_stored_20 (by decide) ?_
    exact fl_iret hx hb hr hlocks hP hS hG.symm rfl d_FL_stored_21
  ·
    have hG := hG.trans (if_neg h_1)
    refine lv_aload_n hx hb d_FL_stored_8 rfl (lv_at hl 0 rfl) ?_
    refine gg_FL (k := 4) (v := .ref (ad 15)) hx hb hts hown hK hP  (hts _ (List.mem_cons_of_mem _ tw_286)) (by decide) rfl rfl d_FL_stored_9 ?_
    refine lv_iload_n hx hb d_FL_stored_12 rfl (lv_at hl 1 rfl) ?_
    refine lv_iload_n hx hb d_FL_stored_13 rfl (lv_at hl 2 rfl) ?_
    refine fl_calli (va_runV (As := [.int x1, .int x2]) (rest := []) ⟨hx, hb, hml, hown, hts⟩ (c_CT_storedAt l hi M x1 x2 (below_in4 (by assumption)) (hsl)) (kv_CT_storedAt hts (hts _ (List.mem_cons_of_mem _ tw_715)) ⟨Nat.le_of_ble_eq_true rfl, Nat.le_of_ble_eq_true rfl⟩) (fl_preV hK hSt hN hS hP (by decide) (kg_CT) rfl) rfl rfl hl.1 rfl (lv_room (Nat.le_of_ble_eq_true rfl)) d_FL_stored_14 ⟨Nat.zero_le _, Nat.zero_le _⟩) hS (fun H locs hP hS => ?_)
    refine lv_goto (tgt := 21) hx hb d_FL_stored_17 (by decide) ?_
    exact fl_iret hx hb hr hlocks hP hS hG.symm rfl d_FL_stored_21
theorem hd_FL_stored : y_FL_stored.cls ≠ "java/lang/invoke/MethodHandle" ∧ y_FL_stored.cls ≠ "java/lang/invoke/VarHandle" ∧ (parseMethodDescriptor y_FL_stored.desc).map (fun d => d.parameters.length) = some 2 := by decide +kernel
theorem kv_FL_stored {R : Room} {s : State} {args : Array Value} {c0 : Cond} {own : String} {index : Nat} (hts : ∀ w ∈ c0 :: gw, w.before args s = true) (hl : (Cond.methodLink own index y_FL_stored).before args s = true) (hR : 2 + 1 ≤ R.frames ∧ 8 + (3 + 11) + 43 ≤ R.locals) : CallW R s args own "FarLink" index y_FL_stored b_FL_stored 3 (some .int) w_FL_stored ({ frames := 2, cells := 0, slots := 0, locals := 43 } : Room) 0 0 2 := ⟨callB_of 2 hts (gw_in tw_714) rfl rfl rfl (hts _ (List.mem_cons_of_mem _ tw_1)) hl hd_FL_stored hR, hts _ (List.mem_cons_of_mem _ tw_712), hts _ (List.mem_cons_of_mem _ tw_713)⟩
def g_FL_report (M : fl_M) : Int32 :=
  (g_CF_reportBits (M.1 16))
set_option maxHeartbeats 4000000 in
set_option maxRecDepth 100000 in
theorem c_FL_report (l : Launch) {D : va_G} {ad : Nat → Nat} {cA : Nat → ClassId} {st : Nat → Nat} (hi : fl_inj ad 88) (M : fl_M) : Met l y_FL_report w_FL_report ({ frames := 1, cells := 0, slots := 0, locals := 20 } : Room) (va_Pc [.ref (ad 0)] (fl_B D cls (xt cA) (xSL st) xFN xMN ad (xc ad cA) 88 M)) (va_Qi (fun r M' => r = (g_FL_report M) ∧ M' = M) (fl_E D cls ad (xc ad cA) 88) (fl_A ad 88)) 0 0 (fl_A ad 88) := by
  refine Met.ofW (cc := b_FL_report) (maxL := 1) (ret := (some .int)) (by decide) rfl ?_
  intro p e s m args below meth c s₁ B hml hv
  obtain ⟨rfl, hP, hK, hSt, hN⟩ := hv
  have hx := B.exec
  have hb := B.bytes
  have hr := B.returns
  have hts := atoms_spec (ws := w_FL_report) B.pre
  have hown : s.vm.findClass "FarLink" = some m.cls := findClass_of_methodNamed B.named
  have hlocks := B.notSynchronized
  have hS : va_S (fl_A ad 88) s.heap s.heap [] := va_S.rf
  have hl := lv_entry ([.ref (ad 0)]) (n := 1) (Nat.le_of_ble_eq_true rfl)
  rw [lg_entry_eq]
  generalize (lg_sl ([.ref (ad 0)]) ++ List.replicate (1 - (lg_sl ([.ref (ad 0)])).length) Slot.unset).toArray = ls at hl ⊢
  have hl : lv_has ls 1 [(0, .ref (ad 0))] := hl
  have hG := g_FL_report.eq_1 M
  refine lv_aload_n hx hb d_FL_report_0 rfl (lv_at hl 0 rfl) ?_
  refine gg_FL (k := 4) (v := .ref (ad 15)) hx hb hts hown hK hP  (hts _ (List.mem_cons_of_mem _ tw_286)) (by decide) rfl rfl d_FL_report_1 ?_
  refine gg_CTN (k := 0) (v := .ref (ad 16)) hx hb hts hown hK hP  (hN.f 16 rfl) (by decide) rfl rfl d_FL_report_4 ?_
  have hP : va_P D cls (fl_w ad (xc ad cA) 88 (pCF M (M.1 16))) s.heap := by rw [id_CF]; exact hP
  refine fl_calli (va_runV (As := []) (rest := []) ⟨hx, hb, hml, hown, hts⟩ (c_CF_reportBits l hi M (M.1 16)) (kv_CF_reportBits hts (hts _ (List.mem_cons_of_mem _ tw_724)) ⟨Nat.le_of_ble_eq_true rfl, Nat.le_of_ble_eq_true rfl⟩) (fl_preV hK hSt hN hS hP (by decide) (kc_CF) rfl) rfl rfl hl.1 rfl (lv_room (Nat.le_of_ble_eq_true rfl)) d_FL_report_7 ⟨Nat.zero_le _, Nat.zero_le _⟩) hS (fun H locs hP hS => ?_)
  have hP : va_P D cls (fl_w ad (xc ad cA) 88 M) H := by rw [id_CF] at hP; exact hP
  exact fl_iret hx hb hr hlocks hP hS hG.symm rfl d_FL_report_10
theorem hd_FL_report : y_FL_report.cls ≠ "java/lang/invoke/MethodHandle" ∧ y_FL_report.cls ≠ "java/lang/invoke/VarHandle" ∧ (parseMethodDescriptor y_FL_report.desc).map (fun d => d.parameters.length) = some 0 := by decide +kernel
theorem kv_FL_report {R : Room} {s : State} {args : Array Value} {c0 : Cond} {own : String} {index : Nat} (hts : ∀ w ∈ c0 :: gw, w.before args s = true) (hl : (Cond.methodLink own index y_FL_report).before args s = true) (hR : 1 + 1 ≤ R.frames ∧ 8 + (1 + 11) + 20 ≤ R.locals) : CallW R s args own "FarLink" index y_FL_report b_FL_report 1 (some .int) w_FL_report ({ frames := 1, cells := 0, slots := 0, locals := 20 } : Room) 0 0 0 := ⟨callB_of 0 hts (gw_in tw_723) rfl rfl rfl (hts _ (List.mem_cons_of_mem _ tw_1)) hl hd_FL_report hR, hts _ (List.mem_cons_of_mem _ tw_721), hts _ (List.mem_cons_of_mem _ tw_722)⟩
def g_FL_window (M : fl_M) : Int32 :=
  (g_GF_summary (M.1 11) (M.1 13) (M.2 12))
set_option maxHeartbeats 4000000 in
set_option maxRecDepth 100000 in
theorem c_FL_window (l : Launch) {D : va_G} {ad : Nat → Nat} {cA : Nat → ClassId} {st : Nat → Nat} (hi : fl_inj ad 88) (M : fl_M) (hu : nn (M.1 11 5)) : Met l y_FL_window w_FL_window ({ frames := 2, cells := 0, slots := 0, locals := 42 } : Room) (va_Pc [.ref (ad 0)] (fl_B D cls (xt cA) (xSL st) xFN xMN ad (xc ad cA) 88 M)) (va_Qi (fun r M' => r = (g_FL_window M) ∧ M' = M) (fl_E D cls ad (xc ad cA) 88) (fl_A ad 88)) 0 0 (fl_A ad 88) := by
  refine Met.ofW (cc := b_FL_window) (maxL := 1) (ret := (some .int)) (by decide) rfl ?_
  intro p e s m args below meth c s₁ B hml hv
  obtain ⟨rfl, hP, hK, hSt, hN⟩ := hv
  have hx := B.exec
  have hb := B.bytes
  have hr := B.returns
  have hts := atoms_spec (ws := w_FL_window) B.pre
  have hown : s.vm.findClass "FarLink" = some m.cls := findClass_of_methodNamed B.named
  have hlocks := B.notSynchronized
  have hS : va_S (fl_A ad 88) s.heap s.heap [] := va_S.rf
  have hl := lv_entry ([.ref (ad 0)]) (n := 1) (Nat.le_of_ble_eq_true rfl)
  rw [lg_entry_eq]
  generalize (lg_sl ([.ref (ad 0)]) ++ List.replicate (1 - (lg_sl ([.ref (ad 0)])).length) Slot.unset).toArray = ls at hl ⊢
  have hl : lv_has ls 1 [(0, .ref (ad 0))] := hl
  have hG := g_FL_window.eq_1 M
  refine lv_aload_n hx hb d_FL_window_0 rfl (lv_at hl 0 rfl) ?_
  refine gg_FL (k := 3) (v := .ref (ad 10)) hx hb hts hown hK hP  (hts _ (List.mem_cons_of_mem _ tw_285)) (by decide) rfl rfl d_FL_window_1 ?_
  refine gg_GRN (k := 0) (v := .ref (ad 11)) hx hb hts hown hK hP  (hN.f 8 rfl) (by decide) rfl rfl d_FL_window_4 ?_
  have hP : va_P D cls (fl_w ad (xc ad cA) 88 (pGF M (M.1 11) (M.1 13) (M.2 12))) s.heap := by rw [id_GF]; exact hP
  refine fl_calli (va_runV (As := []) (rest := []) ⟨hx, hb, hml, hown, hts⟩ (c_GF_summary l hi M (M.1 11) (M.1 13) (M.2 12) (by assumption)) (kv_GF_summary hts (hts _ (List.mem_cons_of_mem _ tw_729)) ⟨Nat.le_of_ble_eq_true rfl, Nat.le_of_ble_eq_true rfl⟩) (fl_preV hK hSt hN hS hP (by decide) (kc_GF) rfl) rfl rfl hl.1 rfl (lv_room (Nat.le_of_ble_eq_true rfl)) d_FL_window_7 ⟨Nat.zero_le _, Nat.zero_le _⟩) hS (fun H locs hP hS => ?_)
  have hP : va_P D cls (fl_w ad (xc ad cA) 88 M) H := by rw [id_GF] at hP; exact hP
  exact fl_iret hx hb hr hlocks hP hS hG.symm rfl d_FL_window_10
theorem hd_FL_window : y_FL_window.cls ≠ "java/lang/invoke/MethodHandle" ∧ y_FL_window.cls ≠ "java/lang/invoke/VarHandle" ∧ (parseMethodDescriptor y_FL_window.desc).map (fun d => d.parameters.length) = some 0 := by decide +kernel
theorem kv_FL_window {R : Room} {s : State} {args : Array Value} {c0 : Cond} {own : String} {index : Nat} (hts : ∀ w ∈ c0 :: gw, w.before args s = true) (hl : (Cond.methodLink own index y_FL_window).before args s = true) (hR : 2 + 1 ≤ R.frames ∧ 8 + (1 + 11) + 42 ≤ R.locals) : CallW R s args own "FarLink" index y_FL_window b_FL_window 1 (some .int) w_FL_window ({ frames := 2, cells := 0, slots := 0, locals := 42 } : Room) 0 0 0 := ⟨callB_of 0 hts (gw_in tw_728) rfl rfl rfl (hts _ (List.mem_cons_of_mem _ tw_1)) hl hd_FL_window hR, hts _ (List.mem_cons_of_mem _ tw_726), hts _ (List.mem_cons_of_mem _ tw_727)⟩
def g_FL_alerts (M : fl_M) : Int32 :=
  M.1 11 8
set_option maxHeartbeats 4000000 in
set_option maxRecDepth 100000 in
theorem c_FL_alerts (l : Launch) {D : va_G} {ad : Nat → Nat} {cA : Nat → ClassId} {st : Nat → Nat} (hi : fl_inj ad 88) (M : fl_M) : Met l y_FL_alerts w_FL_alerts ({ frames := 0, cells := 0, slots := 0, locals := 0 } : Room) (va_Pc [.ref (ad 0)] (fl_B D cls (xt cA) (xSL st) xFN xMN ad (xc ad cA) 88 M)) (va_Qi (fun r M' => r = (g_FL_alerts M) ∧ M' = M) (fl_E D cls ad (xc ad cA) 88) (fl_A ad 88)) 0 0 (fl_A ad 88) := by
  refine Met.ofW (cc := b_FL_alerts) (maxL := 1) (ret := (some .int)) (by decide) rfl ?_
  intro p e s m args below meth c s₁ B hml hv
  obtain ⟨rfl, hP, hK, hSt, hN⟩ := hv
  have hx := B.exec
  have hb := B.bytes
  have hr := B.returns
  have hts := atoms_spec (ws := w_FL_alerts) B.pre
  have hown : s.vm.findClass "FarLink" = some m.cls := findClass_of_methodNamed B.named
  have hlocks := B.notSynchronized
  have hS : va_S (fl_A ad 88) s.heap s.heap [] := va_S.rf
  have hl := lv_entry ([.ref (ad 0)]) (n := 1) (Nat.le_of_ble_eq_true rfl)
  rw [lg_entry_eq]
  generalize (lg_sl ([.ref (ad 0)]) ++ List.replicate (1 - (lg_sl ([.ref (ad 0)])).length) Slot.unset).toArray = ls at hl ⊢
  have hl : lv_has ls 1 [(0, .ref (ad 0))] := hl
  have hG := g_FL_alerts.eq_1 M
  refine lv_aload_n hx hb d_FL_alerts_0 rfl (lv_at hl 0 rfl) ?_
  refine gg_FL (k := 3) (v := .ref (ad 10)) hx hb hts hown hK hP  (hts _ (List.mem_cons_of_mem _ tw_285)) (by decide) rfl rfl d_FL_alerts_1 ?_
  refine gg_GRN (k := 0) (v := .ref (ad 11)) hx hb hts hown hK hP  (hN.f 8 rfl) (by decide) rfl rfl d_FL_alerts_4 ?_
  refine gg_GFN (k := 8) (v := .int (M.1 11 8)) hx hb hts hown hK hP  (hN.f 4 rfl) (by decide) rfl rfl d_FL_alerts_7 ?_
  exact fl_iret hx hb hr hlocks hP hS hG.symm rfl d_FL_alerts_10
theorem hd_FL_alerts : y_FL_alerts.cls ≠ "java/lang/invoke/MethodHandle" ∧ y_FL_alerts.cls ≠ "java/lang/invoke/VarHandle" ∧ (parseMethodDescriptor y_FL_alerts.desc).map (fun d => d.parameters.length) = some 0 := by decide +kernel
theorem kv_FL_alerts {R : Room} {s : State} {args : Array Value} {c0 : Cond} {own : String} {index : Nat} (hts : ∀ w ∈ c0 :: gw, w.before args s = true) (hl : (Cond.methodLink own index y_FL_alerts).before args s = true) (hR : 0 + 1 ≤ R.frames ∧ 8 + (1 + 11) + 0 ≤ R.locals) : CallW R s args own "FarLink" index y_FL_alerts b_FL_alerts 1 (some .int) w_FL_alerts ({ frames := 0, cells := 0, slots := 0, locals := 0 } : Room) 0 0 0 := ⟨callB_of 0 hts (gw_in tw_740) rfl rfl rfl (hts _ (List.mem_cons_of_mem _ tw_1)) hl hd_FL_alerts hR, hts _ (List.mem_cons_of_mem _ tw_738), hts _ (List.mem_cons_of_mem _ tw_739)⟩
def g_FL_sent (M : fl_M) (x1 : Int32) : Int32 :=
  M.1 (g_FL_way x1) 5
set_option maxHeartbeats 4000000 in
set_option maxRecDepth 100000 in
theorem c_FL_sent (l : Launch) {D : va_G} {ad : Nat → Nat} {cA : Nat → ClassId} {st : Nat → Nat} (hi : fl_inj ad 88) (M : fl_M) (x1 : Int32) : Met l y_FL_sent w_FL_sent ({ frames := 1, cells := 0, slots := 0, locals := 21 } : Room) (va_Pc [.ref (ad 0), .int x1] (fl_B D cls (xt cA) (xSL st) xFN xMN ad (xc ad cA) 88 M)) (va_Qi (fun r M' => r = (g_FL_sent M x1) ∧ M' = M) (fl_E D cls ad (xc ad cA) 88) (fl_A ad 88)) 0 0 (fl_A ad 88) := by
  refine Met.ofW (cc := b_FL_sent) (maxL := 2) (ret := (some .int)) (by decide) rfl ?_
  intro p e s m args below meth c s₁ B hml hv
  obtain ⟨rfl, hP, hK, hSt, hN⟩ := hv
  have hx := B.exec
  have hb := B.bytes
  have hr := B.returns
  have hts := atoms_spec (ws := w_FL_sent) B.pre
  have hown : s.vm.findClass "FarLink" = some m.cls := findClass_of_methodNamed B.named
  have hlocks := B.notSynchronized
  have hS : va_S (fl_A ad 88) s.heap s.heap [] := va_S.rf
  have hl := lv_entry ([.ref (ad 0), .int x1]) (n := 2) (Nat.le_of_ble_eq_true rfl)
  rw [lg_entry_eq]
  generalize (lg_sl ([.ref (ad 0), .int x1]) ++ List.replicate (2 - (lg_sl ([.ref (ad 0), .int x1])).length) Slot.unset).toArray = ls at hl ⊢
  have hl : lv_has ls 2 [(0, .ref (ad 0)), (1, .int x1)] := hl
  have hG := g_FL_sent.eq_1 M x1
  refine lv_aload_n hx hb d_FL_sent_0 rfl (lv_at hl 0 rfl) ?_
  refine lv_iload_n hx hb d_FL_sent_1 rfl (lv_at hl 1 rfl) ?_
  refine fl_callr (va_runV (As := [.int x1]) (rest := []) ⟨hx, hb, hml, hown, hts⟩ (c_FL_way l hi M x1) (kv_FL_way hts (hts _ (List.mem_cons_of_mem _ tw_353)) ⟨Nat.le_of_ble_eq_true rfl, Nat.le_of_ble_eq_true rfl⟩) (fl_preV hK hSt hN hS hP (by decide) (kg_FL) rfl) rfl rfl hl.1 rfl (lv_room (Nat.le_of_ble_eq_true rfl)) d_FL_sent_2 ⟨Nat.zero_le _, Nat.zero_le _⟩) hS (fun H locs hP hS => ?_)
  refine gg_WYN (k := 5) (v := .int (M.1 (g_FL_way x1) 5)) hx hb hts hown hK hP (is_way x1) (hN.f 1 rfl) (by decide) rfl rfl d_FL_sent_5 ?_
  exact fl_iret hx hb hr hlocks hP hS hG.symm rfl d_FL_sent_8
theorem hd_FL_sent : y_FL_sent.cls ≠ "java/lang/invoke/MethodHandle" ∧ y_FL_sent.cls ≠ "java/lang/invoke/VarHandle" ∧ (parseMethodDescriptor y_FL_sent.desc).map (fun d => d.parameters.length) = some 1 := by decide +kernel
theorem kv_FL_sent {R : Room} {s : State} {args : Array Value} {c0 : Cond} {own : String} {index : Nat} (hts : ∀ w ∈ c0 :: gw, w.before args s = true) (hl : (Cond.methodLink own index y_FL_sent).before args s = true) (hR : 1 + 1 ≤ R.frames ∧ 8 + (2 + 11) + 21 ≤ R.locals) : CallW R s args own "FarLink" index y_FL_sent b_FL_sent 2 (some .int) w_FL_sent ({ frames := 1, cells := 0, slots := 0, locals := 21 } : Room) 0 0 1 := ⟨callB_of 1 hts (gw_in tw_744) rfl rfl rfl (hts _ (List.mem_cons_of_mem _ tw_1)) hl hd_FL_sent hR, hts _ (List.mem_cons_of_mem _ tw_742), hts _ (List.mem_cons_of_mem _ tw_743)⟩
def g_FL_faults (M : fl_M) (x1 : Int32) : Int32 :=
  (M.1 (g_FL_way x1) 6) + (65536 * (M.1 (g_FL_way x1) 7))
set_option maxHeartbeats 4000000 in
set_option maxRecDepth 100000 in
theorem c_FL_faults (l : Launch) {D : va_G} {ad : Nat → Nat} {cA : Nat → ClassId} {st : Nat → Nat} (hi : fl_inj ad 88) (M : fl_M) (x1 : Int32) : Met l y_FL_faults w_FL_faults ({ frames := 1, cells := 0, slots := 0, locals := 21 } : Room) (va_Pc [.ref (ad 0), .int x1] (fl_B D cls (xt cA) (xSL st) xFN xMN ad (xc ad cA) 88 M)) (va_Qi (fun r M' => r = (g_FL_faults M x1) ∧ M' = M) (fl_E D cls ad (xc ad cA) 88) (fl_A ad 88)) 0 0 (fl_A ad 88) := by
  refine Met.ofW (cc := b_FL_faults) (maxL := 2) (ret := (some .int)) (by decide) rfl ?_
  intro p e s m args below meth c s₁ B hml hv
  obtain ⟨rfl, hP, hK, hSt, hN⟩ := hv
  have hx := B.exec
  have hb := B.bytes
  have hr := B.returns
  have hts := atoms_spec (ws := w_FL_faults) B.pre
  have hown : s.vm.findClass "FarLink" = some m.cls := findClass_of_methodNamed B.named
  have hlocks := B.notSynchronized
  have hS : va_S (fl_A ad 88) s.heap s.heap [] := va_S.rf
  have hl := lv_entry ([.ref (ad 0), .int x1]) (n := 2) (Nat.le_of_ble_eq_true rfl)
  rw [lg_entry_eq]
  generalize (lg_sl ([.ref (ad 0), .int x1]) ++ List.replicate (2 - (lg_sl ([.ref (ad 0), .int x1])).length) Slot.unset).toArray = ls at hl ⊢
  have hl : lv_has ls 2 [(0, .ref (ad 0)), (1, .int x1)] := hl
  have hG := g_FL_faults.eq_1 M x1
  refine lv_aload_n hx hb d_FL_faults_0 rfl (lv_at hl 0 rfl) ?_
  refine lv_iload_n hx hb d_FL_faults_1 rfl (lv_at hl 1 rfl) ?_
  refine fl_callr (va_runV (As := [.int x1]) (rest := []) ⟨hx, hb, hml, hown, hts⟩ (c_FL_way l hi M x1) (kv_FL_way hts (hts _ (List.mem_cons_of_mem _ tw_353)) ⟨Nat.le_of_ble_eq_true rfl, Nat.le_of_ble_eq_true rfl⟩) (fl_preV hK hSt hN hS hP (by decide) (kg_FL) rfl) rfl rfl hl.1 rfl (lv_room (Nat.le_of_ble_eq_true rfl)) d_FL_faults_2 ⟨Nat.zero_le _, Nat.zero_le _⟩) hS (fun H locs hP hS => ?_)
  refine gg_WYN (k := 6) (v := .int (M.1 (g_FL_way x1) 6)) hx hb hts hown hK hP (is_way x1) (hN.f 2 rfl) (by decide) rfl rfl d_FL_faults_5 ?_
  refine lv_ldc (v := 65536) hx hb hown (hts _ (List.mem_cons_of_mem _ tw_749)) d_FL_faults_8 ?_
  refine lv_aload_n hx hb d_FL_faults_10 rfl (lv_at hl 0 rfl) ?_
  refine lv_iload_n hx hb d_FL_faults_11 rfl (lv_at hl 1 rfl) ?_
  refine fl_callr (va_runV (As := [.int x1]) (rest := [.int 65536, .int (M.1 (g_FL_way x1) 6)]) ⟨hx, hb, hml, hown, hts⟩ (c_FL_way l hi M x1) (kv_FL_way hts (hts _ (List.mem_cons_of_mem _ tw_353)) ⟨Nat.le_of_ble_eq_true rfl, Nat.le_of_ble_eq_true rfl⟩) (fl_preV hK hSt hN hS hP (by decide) (kg_FL) rfl) rfl rfl hl.1 rfl (lv_room (Nat.le_of_ble_eq_true rfl)) d_FL_faults_12 ⟨Nat.zero_le _, Nat.zero_le _⟩) hS (fun H locs hP hS => ?_)
  refine gg_WYN (k := 7) (v := .int (M.1 (g_FL_way x1) 7)) hx hb hts hown hK hP (is_way x1) (hN.f 3 rfl) (by decide) rfl rfl d_FL_faults_15 ?_
  refine lv_imul hx hb d_FL_faults_18 ?_
  refine lv_iadd hx hb d_FL_faults_19 ?_
  exact fl_iret hx hb hr hlocks hP hS hG.symm rfl d_FL_faults_20
theorem hd_FL_faults : y_FL_faults.cls ≠ "java/lang/invoke/MethodHandle" ∧ y_FL_faults.cls ≠ "java/lang/invoke/VarHandle" ∧ (parseMethodDescriptor y_FL_faults.desc).map (fun d => d.parameters.length) = some 1 := by decide +kernel
theorem kv_FL_faults {R : Room} {s : State} {args : Array Value} {c0 : Cond} {own : String} {index : Nat} (hts : ∀ w ∈ c0 :: gw, w.before args s = true) (hl : (Cond.methodLink own index y_FL_faults).before args s = true) (hR : 1 + 1 ≤ R.frames ∧ 8 + (2 + 11) + 21 ≤ R.locals) : CallW R s args own "FarLink" index y_FL_faults b_FL_faults 2 (some .int) w_FL_faults ({ frames := 1, cells := 0, slots := 0, locals := 21 } : Room) 0 0 1 := ⟨callB_of 1 hts (gw_in tw_748) rfl rfl rfl (hts _ (List.mem_cons_of_mem _ tw_1)) hl hd_FL_faults hR, hts _ (List.mem_cons_of_mem _ tw_746), hts _ (List.mem_cons_of_mem _ tw_747)⟩
def g_FL_encode (x1 : Int32) (x2 : Int64) : Int64 :=
  if x1 = 0 then ((g_DC_blockOf x2)) else ((g_UC_blockOf x2))
set_option maxHeartbeats 4000000 in
set_option maxRecDepth 100000 in
theorem c_FL_encode (l : Launch) {D : va_G} {ad : Nat → Nat} {cA : Nat → ClassId} {st : Nat → Nat} (hi : fl_inj ad 88) (M : fl_M) (x1 : Int32) (x2 : Int64) : Met l y_FL_encode w_FL_encode ({ frames := 3, cells := 0, slots := 0, locals := 75 } : Room) (va_Pc [.ref (ad 0), .int x1, .long x2] (fl_B D cls (xt cA) (xSL st) xFN xMN ad (xc ad cA) 88 M)) (va_Ql (fun r M' => r = (g_FL_encode x1 x2) ∧ M' = M) (fl_E D cls ad (xc ad cA) 88) (fl_A ad 88)) 0 0 (fl_A ad 88) := by
  refine Met.ofW (cc := b_FL_encode) (maxL := 4) (ret := (some .long)) (by decide) rfl ?_
  intro p e s m args below meth c s₁ B hml hv
  obtain ⟨rfl, hP, hK, hSt, hN⟩ := hv
  have hx := B.exec
  have hb := B.bytes
  have hr := B.returns
  have hts := atoms_spec (ws := w_FL_encode) B.pre
  have hown : s.vm.findClass "FarLink" = some m.cls := findClass_of_methodNamed B.named
  have hlocks := B.notSynchronized
  have hS : va_S (fl_A ad 88) s.heap s.heap [] := va_S.rf
  have hl := lv_entry ([.ref (ad 0), .int x1, .long x2]) (n := 4) (Nat.le_of_ble_eq_true rfl)
  rw [lg_entry_eq]
  generalize (lg_sl ([.ref (ad 0), .int x1, .long x2]) ++ List.replicate (4 - (lg_sl ([.ref (ad 0), .int x1, .long x2])).length) Slot.unset).toArray = ls at hl ⊢
  have hl : lv_has ls 4 [(0, .ref (ad 0)), (1, .int x1), (2, .long x2)] := hl
  have hG := g_FL_encode.eq_1 x1 x2
  refine lv_iload_n hx hb d_FL_encode_0 rfl (lv_at hl 1 rfl) ?_
  refine lv_if_eq (tgt := 11) hx hb d_FL_encode_1 (by decide) (fun h_1 => ?_) (fun h_1 => ?_)
  ·
    have hG := hG.trans (if_pos h_1)
    refine lv_lload_n hx hb d_FL_encode_11 rfl (lv_at hl 2 rfl) ?_
    refine fl_calll (va_runS (As := [.long x2]) (rest := []) ⟨hx, hb, hml, hown, hts⟩ (c_DC_blockOf l hi M x2) (kv_DC_blockOf hts (hts _ (List.mem_cons_of_mem _ tw_755)) ⟨Nat.le_of_ble_eq_true rfl, Nat.le_of_ble_eq_true rfl⟩) (fl_preS hK hSt hN hS hP) rfl rfl hl.1 rfl (lv_room (Nat.le_of_ble_eq_true rfl)) d_FL_encode_12 ⟨Nat.zero_le _, Nat.zero_le _⟩) hS (fun H locs hP hS => ?_)
    exact fl_lret hx hb hr hlocks hP hS hG.symm rfl d_FL_encode_15
  ·
    have hG := hG.trans (if_neg h_1)
    refine lv_lload_n hx hb d_FL_encode_4 rfl (lv_at hl 2 rfl) ?_
    refine fl_calll (va_runS (As := [.long x2]) (rest := []) ⟨hx, hb, hml, hown, hts⟩ (c_UC_blockOf l hi M x2) (kv_UC_blockOf hts (hts _ (List.mem_cons_of_mem _ tw_754)) ⟨Nat.le_of_ble_eq_true rfl, Nat.le_of_ble_eq_true rfl⟩) (fl_preS hK hSt hN hS hP) rfl rfl hl.1 rfl (lv_room (Nat.le_of_ble_eq_true rfl)) d_FL_encode_5 ⟨Nat.zero_le _, Nat.zero_le _⟩) hS (fun H locs hP hS => ?_)
    refine lv_goto (tgt := 15) hx hb d_FL_encode_8 (by decide) ?_
    exact fl_lret hx hb hr hlocks hP hS hG.symm rfl d_FL_encode_15
theorem hd_FL_encode : y_FL_encode.cls ≠ "java/lang/invoke/MethodHandle" ∧ y_FL_encode.cls ≠ "java/lang/invoke/VarHandle" ∧ (parseMethodDescriptor y_FL_encode.desc).map (fun d => d.parameters.length) = some 2 := by decide +kernel
theorem kv_FL_encode {R : Room} {s : State} {args : Array Value} {c0 : Cond} {own : String} {index : Nat} (hts : ∀ w ∈ c0 :: gw, w.before args s = true) (hl : (Cond.methodLink own index y_FL_encode).before args s = true) (hR : 3 + 1 ≤ R.frames ∧ 8 + (4 + 11) + 75 ≤ R.locals) : CallW R s args own "FarLink" index y_FL_encode b_FL_encode 4 (some .long) w_FL_encode ({ frames := 3, cells := 0, slots := 0, locals := 75 } : Room) 0 0 2 := ⟨callB_of 2 hts (gw_in tw_753) rfl rfl rfl (hts _ (List.mem_cons_of_mem _ tw_1)) hl hd_FL_encode hR, hts _ (List.mem_cons_of_mem _ tw_751), hts _ (List.mem_cons_of_mem _ tw_752)⟩
def g_FL_decode (x1 : Int32) (x2 : Int64) : Int64 :=
  if x1 = 0 then ((g_DC_infoOf x2)) else ((g_UC_infoOf x2))
set_option maxHeartbeats 4000000 in
set_option maxRecDepth 100000 in
theorem c_FL_decode (l : Launch) {D : va_G} {ad : Nat → Nat} {cA : Nat → ClassId} {st : Nat → Nat} (hi : fl_inj ad 88) (M : fl_M) (x1 : Int32) (x2 : Int64) : Met l y_FL_decode w_FL_decode ({ frames := 4, cells := 0, slots := 0, locals := 102 } : Room) (va_Pc [.ref (ad 0), .int x1, .long x2] (fl_B D cls (xt cA) (xSL st) xFN xMN ad (xc ad cA) 88 M)) (va_Ql (fun r M' => r = (g_FL_decode x1 x2) ∧ M' = M) (fl_E D cls ad (xc ad cA) 88) (fl_A ad 88)) 0 0 (fl_A ad 88) := by
  refine Met.ofW (cc := b_FL_decode) (maxL := 4) (ret := (some .long)) (by decide) rfl ?_
  intro p e s m args below meth c s₁ B hml hv
  obtain ⟨rfl, hP, hK, hSt, hN⟩ := hv
  have hx := B.exec
  have hb := B.bytes
  have hr := B.returns
  have hts := atoms_spec (ws := w_FL_decode) B.pre
  have hown : s.vm.findClass "FarLink" = some m.cls := findClass_of_methodNamed B.named
  have hlocks := B.notSynchronized
  have hS : va_S (fl_A ad 88) s.heap s.heap [] := va_S.rf
  have hl := lv_entry ([.ref (ad 0), .int x1, .long x2]) (n := 4) (Nat.le_of_ble_eq_true rfl)
  rw [lg_entry_eq]
  generalize (lg_sl ([.ref (ad 0), .int x1, .long x2]) ++ List.replicate (4 - (lg_sl ([.ref (ad 0), .int x1, .long x2])).length) Slot.unset).toArray = ls at hl ⊢
  have hl : lv_has ls 4 [(0, .ref (ad 0)), (1, .int x1), (2, .long x2)] := hl
  have hG := g_FL_decode.eq_1 x1 x2
  refine lv_iload_n hx hb d_FL_decode_0 rfl (lv_at hl 1 rfl) ?_
  refine lv_if_eq (tgt := 11) hx hb d_FL_decode_1 (by decide) (fun h_1 => ?_) (fun h_1 => ?_)
  ·
    have hG := hG.trans (if_pos h_1)
    refine lv_lload_n hx hb d_FL_decode_11 rfl (lv_at hl 2 rfl) ?_
    refine fl_calll (va_runS (As := [.long x2]) (rest := []) ⟨hx, hb, hml, hown, hts⟩ (c_DC_infoOf l hi M x2) (kv_DC_infoOf hts (hts _ (List.mem_cons_of_mem _ tw_761)) ⟨Nat.le_of_ble_eq_true rfl, Nat.le_of_ble_eq_true rfl⟩) (fl_preS hK hSt hN hS hP) rfl rfl hl.1 rfl (lv_room (Nat.le_of_ble_eq_true rfl)) d_FL_decode_12 ⟨Nat.zero_le _, Nat.zero_le _⟩) hS (fun H locs hP hS => ?_)
    exact fl_lret hx hb hr hlocks hP hS hG.symm rfl d_FL_decode_15
  ·
    have hG := hG.trans (if_neg h_1)
    refine lv_lload_n hx hb d_FL_decode_4 rfl (lv_at hl 2 rfl) ?_
    refine fl_calll (va_runS (As := [.long x2]) (rest := []) ⟨hx, hb, hml, hown, hts⟩ (c_UC_infoOf l hi M x2) (kv_UC_infoOf hts (hts _ (List.mem_cons_of_mem _ tw_760)) ⟨Nat.le_of_ble_eq_true rfl, Nat.le_of_ble_eq_true rfl⟩) (fl_preS hK hSt hN hS hP) rfl rfl hl.1 rfl (lv_room (Nat.le_of_ble_eq_true rfl)) d_FL_decode_5 ⟨Nat.zero_le _, Nat.zero_le _⟩) hS (fun H locs hP hS => ?_)
    refine lv_goto (tgt := 15) hx hb d_FL_decode_8 (by decide) ?_
    exact fl_lret hx hb hr hlocks hP hS hG.symm rfl d_FL_decode_15
theorem hd_FL_decode : y_FL_decode.cls ≠ "java/lang/invoke/MethodHandle" ∧ y_FL_decode.cls ≠ "java/lang/invoke/VarHandle" ∧ (parseMethodDescriptor y_FL_decode.desc).map (fun d => d.parameters.length) = some 2 := by decide +kernel
theorem kv_FL_decode {R : Room} {s : State} {args : Array Value} {c0 : Cond} {own : String} {index : Nat} (hts : ∀ w ∈ c0 :: gw, w.before args s = true) (hl : (Cond.methodLink own index y_FL_decode).before args s = true) (hR : 4 + 1 ≤ R.frames ∧ 8 + (4 + 11) + 102 ≤ R.locals) : CallW R s args own "FarLink" index y_FL_decode b_FL_decode 4 (some .long) w_FL_decode ({ frames := 4, cells := 0, slots := 0, locals := 102 } : Room) 0 0 2 := ⟨callB_of 2 hts (gw_in tw_759) rfl rfl rfl (hts _ (List.mem_cons_of_mem _ tw_1)) hl hd_FL_decode hR, hts _ (List.mem_cons_of_mem _ tw_757), hts _ (List.mem_cons_of_mem _ tw_758)⟩
