/-! contracts: 21.wy -/
def g_WY_turnNext (f : Nat → Int32) (g : Nat → Int64) (b : Nat → Int64) (x1 : Int64) : (Nat → Int32) × (Nat → Int64) × (Nat → Int64) :=
  if (f 0) = 0 then ((f, (vp_updL g 3 ((g 3) ^^^ (x1 &&& 1152921504606846975))), b)) else ((f, (vp_updL g 3 ((g 3) ^^^ (x1 &&& 9223372036854775807))), b))
set_option maxHeartbeats 4000000 in
set_option maxRecDepth 100000 in
theorem c_WY_turnNext (l : Launch) {D : va_G} {ad : Nat → Nat} {cA : Nat → ClassId} {st : Nat → Nat} (hi : fl_inj ad 88) {q : Nat} (hq : is_WY q) (M : fl_M) (f : Nat → Int32) (g : Nat → Int64) (b : Nat → Int64) (x1 : Int64) : Met l y_WY_turnNext w_WY_turnNext ({ frames := 0, cells := 0, slots := 0, locals := 0 } : Room) (va_Pc [.ref (ad q), .long x1] (fl_B D cls (xt cA) (xSL st) xFN xMN ad (xc ad cA) 88 (pWY M q f g b))) (va_Qv (fun M' => M' = (pWY M q ((g_WY_turnNext f g b x1).1) ((g_WY_turnNext f g b x1).2.1) ((g_WY_turnNext f g b x1).2.2))) (fl_E D cls ad (xc ad cA) 88) (fl_A ad 88)) 0 0 (fl_A ad 88) := by
  refine Met.ofW (cc := b_WY_turnNext) (maxL := 3) (ret := none) (by decide) rfl ?_
  intro p e s m args below meth c s₁ B hml hv
  obtain ⟨rfl, hP, hK, hSt, hN⟩ := hv
  have hx := B.exec
  have hb := B.bytes
  have hr := B.returns
  have hts := atoms_spec (ws := w_WY_turnNext) B.pre
  have hown : s.vm.findClass "FarLink$Way" = some m.cls := findClass_of_methodNamed B.named
  have hlocks := B.notSynchronized
  have hS : va_S (fl_A ad 88) s.heap s.heap [] := va_S.rf
  have hl := lv_entry ([.ref (ad q), .long x1]) (n := 3) (Nat.le_of_ble_eq_true rfl)
  rw [lg_entry_eq]
  generalize (lg_sl ([.ref (ad q), .long x1]) ++ List.replicate (3 - (lg_sl ([.ref (ad q), .long x1])).length) Slot.unset).toArray = ls at hl ⊢
  have hl : lv_has ls 3 [(0, .ref (ad q)), (1, .long x1)] := hl
  have hG := g_WY_turnNext.eq_1 f g b x1
  refine lv_aload_n hx hb d_WY_turnNext_0 rfl (lv_at hl 0 rfl) ?_
  refine lv_dup hx hb d_WY_turnNext_1 rfl ?_
  refine gt_WY (k := 3) (v := .long (g 3)) hx hb hts hown hK hP hq (hts _ (List.mem_cons_of_mem _ tw_41)) (by decide) rfl rfl d_WY_turnNext_2 ?_
  refine lv_lload_n hx hb d_WY_turnNext_5 rfl (lv_at hl 1 rfl) ?_
  refine lv_aload_n hx hb d_WY_turnNext_6 rfl (lv_at hl 0 rfl) ?_
  refine gt_WY (k := 0) (v := .int (f 0)) hx hb hts hown hK hP hq (hts _ (List.mem_cons_of_mem _ tw_38)) (by decide) rfl rfl d_WY_turnNext_7 ?_
  refine lv_if_eq (tgt := 19) hx hb d_WY_turnNext_10 (by decide) (fun h_1 => ?_) (fun h_1 => ?_)
  ·
    have hG := hG.trans (if_pos h_1)
    refine lv_ldc2 (v := 1152921504606846975) hx hb hown (hts _ (List.mem_cons_of_mem _ tw_362)) d_WY_turnNext_19 ?_
    refine lv_land hx hb d_WY_turnNext_22 ?_
    refine lv_lxor hx hb d_WY_turnNext_23 ?_
    refine pt_WYJ (k := 3) hx hb hts hown hK hi hP hS hq (hts _ (List.mem_cons_of_mem _ tw_41)) (by decide) rfl rfl rfl (Nat.le_of_ble_eq_true rfl) rfl d_WY_turnNext_24 (fun H locs hP hS => ?_)
    exact fl_vret hx hb hr hlocks hP hS (by rw [hG]) d_WY_turnNext_27
  ·
    have hG := hG.trans (if_neg h_1)
    refine lv_ldc2 (v := 9223372036854775807) hx hb hown (hts _ (List.mem_cons_of_mem _ tw_361)) d_WY_turnNext_13 ?_
    refine lv_goto (tgt := 22) hx hb d_WY_turnNext_16 (by decide) ?_
    refine lv_land hx hb d_WY_turnNext_22 ?_
    refine lv_lxor hx hb d_WY_turnNext_23 ?_
    refine pt_WYJ (k := 3) hx hb hts hown hK hi hP hS hq (hts _ (List.mem_cons_of_mem _ tw_41)) (by decide) rfl rfl rfl (Nat.le_of_ble_eq_true rfl) rfl d_WY_turnNext_24 (fun H locs hP hS => ?_)
    exact fl_vret hx hb hr hlocks hP hS (by rw [hG]) d_WY_turnNext_27
theorem hd_WY_turnNext : y_WY_turnNext.cls ≠ "java/lang/invoke/MethodHandle" ∧ y_WY_turnNext.cls ≠ "java/lang/invoke/VarHandle" ∧ (parseMethodDescriptor y_WY_turnNext.desc).map (fun d => d.parameters.length) = some 1 := by decide +kernel
theorem kv_WY_turnNext {R : Room} {s : State} {args : Array Value} {c0 : Cond} {own : String} {index : Nat} (hts : ∀ w ∈ c0 :: gw, w.before args s = true) (hl : (Cond.methodLink own index y_WY_turnNext).before args s = true) (hR : 0 + 1 ≤ R.frames ∧ 8 + (3 + 11) + 0 ≤ R.locals) : CallW R s args own "FarLink$Way" index y_WY_turnNext b_WY_turnNext 3 none w_WY_turnNext ({ frames := 0, cells := 0, slots := 0, locals := 0 } : Room) 0 0 1 := ⟨callB_of 1 hts (gw_in tw_360) rfl rfl rfl (hts _ (List.mem_cons_of_mem _ tw_3)) hl hd_WY_turnNext hR, hts _ (List.mem_cons_of_mem _ tw_358), hts _ (List.mem_cons_of_mem _ tw_359)⟩
def g_WY_send (f : Nat → Int32) (g : Nat → Int64) (b : Nat → Int64) (x1 : Int32) (x2 : Int64) : (Nat → Int32) × (Nat → Int64) × (Nat → Int64) :=
  if (f 0) = 0 then (if (f 4) ≤ 0 then (((upd f 5 ((f 5) + 1)), (vp_updL g 3 0), (vp_updL b ((x1 &&& 7).toNatClampNeg) ((g_DC_blockOf x2) ^^^ (g 3))))) else (((upd (upd f 5 ((f 5) + 1)) 4 ((f 4) - 1)), (vp_updL g 3 0), b))) else (if (f 4) ≤ 0 then (((upd f 5 ((f 5) + 1)), (vp_updL g 3 0), (vp_updL b ((x1 &&& 7).toNatClampNeg) ((g_UC_blockOf x2) ^^^ (g 3))))) else (((upd (upd f 5 ((f 5) + 1)) 4 ((f 4) - 1)), (vp_updL g 3 0), b)))
set_option maxHeartbeats 4000000 in
set_option maxRecDepth 100000 in
theorem c_WY_send (l : Launch) {D : va_G} {ad : Nat → Nat} {cA : Nat → ClassId} {st : Nat → Nat} (hi : fl_inj ad 88) {q : Nat} (hq : is_WY q) (M : fl_M) (f : Nat → Int32) (g : Nat → Int64) (b : Nat → Int64) (x1 : Int32) (x2 : Int64) : Met l y_WY_send w_WY_send ({ frames := 3, cells := 0, slots := 0, locals := 75 } : Room) (va_Pc [.ref (ad q), .int x1, .long x2] (fl_B D cls (xt cA) (xSL st) xFN xMN ad (xc ad cA) 88 (pWY M q f g b))) (va_Qv (fun M' => M' = (pWY M q ((g_WY_send f g b x1 x2).1) ((g_WY_send f g b x1 x2).2.1) ((g_WY_send f g b x1 x2).2.2))) (fl_E D cls ad (xc ad cA) 88) (fl_A ad 88)) 0 0 (fl_A ad 88) := by
  refine Met.ofW (cc := b_WY_send) (maxL := 6) (ret := none) (by decide) rfl ?_
  intro p e s m args below meth c s₁ B hml hv
  obtain ⟨rfl, hP, hK, hSt, hN⟩ := hv
  have hx := B.exec
  have hb := B.bytes
  have hr := B.returns
  have hts := atoms_spec (ws := w_WY_send) B.pre
  have hown : s.vm.findClass "FarLink$Way" = some m.cls := findClass_of_methodNamed B.named
  have hlocks := B.notSynchronized
  have hS : va_S (fl_A ad 88) s.heap s.heap [] := va_S.rf
  have hl := lv_entry ([.ref (ad q), .int x1, .long x2]) (n := 6) (Nat.le_of_ble_eq_true rfl)
  rw [lg_entry_eq]
  generalize (lg_sl ([.ref (ad q), .int x1, .long x2]) ++ List.replicate (6 - (lg_sl ([.ref (ad q), .int x1, .long x2])).length) Slot.unset).toArray = ls at hl ⊢
  have hl : lv_has ls 6 [(0, .ref (ad q)), (1, .int x1), (2, .long x2)] := hl
  have hG := g_WY_send.eq_1 f g b x1 x2
  refine lv_aload_n hx hb d_WY_send_0 rfl (lv_at hl 0 rfl) ?_
  refine gt_WY (k := 0) (v := .int (f 0)) hx hb hts hown hK hP hq (hts _ (List.mem_cons_of_mem _ tw_38)) (by decide) rfl rfl d_WY_send_1 ?_
  refine lv_if_eq (tgt := 14) hx hb d_WY_send_4 (by decide) (fun h_1 => ?_) (fun h_1 => ?_)
  ·
    have hG := hG.trans (if_pos h_1)
    refine lv_lload_n hx hb d_WY_send_14 rfl (lv_at hl 2 rfl) ?_
    refine fl_calll (va_runS (As := [.long x2]) (rest := []) ⟨hx, hb, hml, hown, hts⟩ (c_DC_blockOf l hi (pWY M q f g b) x2) (kv_DC_blockOf hts (hts _ (List.mem_cons_of_mem _ tw_565)) ⟨Nat.le_of_ble_eq_true rfl, Nat.le_of_ble_eq_true rfl⟩) (fl_preS hK hSt hN hS hP) rfl rfl hl.1 rfl (lv_room (Nat.le_of_ble_eq_true rfl)) d_WY_send_15 ⟨Nat.zero_le _, Nat.zero_le _⟩) hS (fun H locs hP hS => ?_)
    refine lv_lstore (lv' := [(4, .long (g_DC_blockOf x2)), (0, .ref (ad q)), (1, .int x1), (2, .long x2)]) hx hb d_WY_send_18 hl (by decide) rfl (fun ls hl => ?_)
    refine lv_aload_n hx hb d_WY_send_20 rfl (lv_at hl 1 rfl) ?_
    refine lv_dup hx hb d_WY_send_21 rfl ?_
    refine gt_WY (k := 5) (v := .int (f 5)) hx hb hts hown hK hP hq (hts _ (List.mem_cons_of_mem _ tw_44)) (by decide) rfl rfl d_WY_send_22 ?_
    refine lv_iconst (v := 1) hx hb d_WY_send_25 (by decide) ?_
    refine lv_iadd hx hb d_WY_send_26 ?_
    refine pt_WY (k := 5) hx hb hts hown hK hi hP hS hq (hts _ (List.mem_cons_of_mem _ tw_44)) (by decide) rfl rfl rfl rfl (Nat.le_of_ble_eq_true rfl) rfl d_WY_send_27 (fun H locs hP hS => ?_)
    refine lv_aload_n hx hb d_WY_send_30 rfl (lv_at hl 1 rfl) ?_
    refine gt_WY (k := 4) (v := .int (f 4)) hx hb hts hown hK hP hq (hts _ (List.mem_cons_of_mem _ tw_42)) (by decide) rfl rfl d_WY_send_31 ?_
    refine lv_if_le (tgt := 50) hx hb d_WY_send_34 (by decide) (fun h_2 => ?_) (fun h_2 => ?_)
    ·
      have hG := hG.trans (if_pos h_2)
      refine lv_aload_n hx hb d_WY_send_50 rfl (lv_at hl 1 rfl) ?_
      refine gt_WY (k := 2) (v := .ref (ad (q + 1))) hx hb hts hown hK hP hq (hts _ (List.mem_cons_of_mem _ tw_40)) (by decide) rfl rfl d_WY_send_51 ?_
      refine lv_iload_n hx hb d_WY_send_54 rfl (lv_at hl 2 rfl) ?_
      refine lv_bipush (v := 7) hx hb d_WY_send_55 (by decide) ?_
      refine lv_iand hx hb d_WY_send_57 ?_
      refine lv_lload hx hb d_WY_send_58 (lv_at hl 0 rfl) ?_
      refine lv_aload_n hx hb d_WY_send_60 rfl (lv_at hl 1 rfl) ?_
      refine gt_WY (k := 3) (v := .long (g 3)) hx hb hts hown hK hP hq (hts _ (List.mem_cons_of_mem _ tw_41)) (by decide) rfl rfl d_WY_send_61 ?_
      refine lv_lxor hx hb d_WY_send_64 ?_
      refine as_WYb hx hb hK hi hP hS hq (fl_in7 _) d_WY_send_65 (fun H locs hP hS => ?_)
      refine lv_aload_n hx hb d_WY_send_66 rfl (lv_at hl 1 rfl) ?_
      refine lv_lconst (v := 0) hx hb d_WY_send_67 (by decide) ?_
      refine pt_WYJ (k := 3) hx hb hts hown hK hi hP hS hq (hts _ (List.mem_cons_of_mem _ tw_41)) (by decide) rfl rfl rfl (Nat.le_of_ble_eq_true rfl) rfl d_WY_send_68 (fun H locs hP hS => ?_)
      exact fl_vret hx hb hr hlocks hP hS (by rw [hG]) d_WY_send_71
    ·
      have hG := hG.trans (if_neg h_2)
      refine lv_aload_n hx hb d_WY_send_37 rfl (lv_at hl 1 rfl) ?_
      refine lv_dup hx hb d_WY_send_38 rfl ?_
      refine gt_WY (k := 4) (v := .int (f 4)) hx hb hts hown hK hP hq (hts _ (List.mem_cons_of_mem _ tw_42)) (by decide) rfl rfl d_WY_send_39 ?_
      refine lv_iconst (v := 1) hx hb d_WY_send_42 (by decide) ?_
      refine lv_isub hx hb d_WY_send_43 ?_
      refine pt_WY (k := 4) hx hb hts hown hK hi hP hS hq (hts _ (List.mem_cons_of_mem _ tw_42)) (by decide) rfl rfl rfl rfl (Nat.le_of_ble_eq_true rfl) rfl d_WY_send_44 (fun H locs hP hS => ?_)
      refine lv_goto (tgt := 66) hx hb d_WY_send_47 (by decide) ?_
      refine lv_aload_n hx hb d_WY_send_66 rfl (lv_at hl 1 rfl) ?_
      refine lv_lconst (v := 0) hx hb d_WY_send_67 (by decide) ?_
      refine pt_WYJ (k := 3) hx hb hts hown hK hi hP hS hq (hts _ (List.mem_cons_of_mem _ tw_41)) (by decide) rfl rfl rfl (Nat.le_of_ble_eq_true rfl) rfl d_WY_send_68 (fun H locs hP hS => ?_)
      exact fl_vret hx hb hr hlocks hP hS (by rw [hG]) d_WY_send_71
  ·
    have hG := hG.trans (if_neg h_1)
    refine lv_lload_n hx hb d_WY_send_7 rfl (lv_at hl 2 rfl) ?_
    refine fl_calll (va_runS (As := [.long x2]) (rest := []) ⟨hx, hb, hml, hown, hts⟩ (c_UC_blockOf l hi (pWY M q f g b) x2) (kv_UC_blockOf hts (hts _ (List.mem_cons_of_mem _ tw_562)) ⟨Nat.le_of_ble_eq_true rfl, Nat.le_of_ble_eq_true rfl⟩) (fl_preS hK hSt hN hS hP) rfl rfl hl.1 rfl (lv_room (Nat.le_of_ble_eq_true rfl)) d_WY_send_8 ⟨Nat.zero_le _, Nat.zero_le _⟩) hS (fun H locs hP hS => ?_)
    refine lv_goto (tgt := 18) hx hb d_WY_send_11 (by decide) ?_
    refine lv_lstore (lv' := [(4, .long (g_UC_blockOf x2)), (0, .ref (ad q)), (1, .int x1), (2, .long x2)]) hx hb d_WY_send_18 hl (by decide) rfl (fun ls hl => ?_)
    refine lv_aload_n hx hb d_WY_send_20 rfl (lv_at hl 1 rfl) ?_
    refine lv_dup hx hb d_WY_send_21 rfl ?_
    refine gt_WY (k := 5) (v := .int (f 5)) hx hb hts hown hK hP hq (hts _ (List.mem_cons_of_mem _ tw_44)) (by decide) rfl rfl d_WY_send_22 ?_
    refine lv_iconst (v := 1) hx hb d_WY_send_25 (by decide) ?_
    refine lv_iadd hx hb d_WY_send_26 ?_
    refine pt_WY (k := 5) hx hb hts hown hK hi hP hS hq (hts _ (List.mem_cons_of_mem _ tw_44)) (by decide) rfl rfl rfl rfl (Nat.le_of_ble_eq_true rfl) rfl d_WY_send_27 (fun H locs hP hS => ?_)
    refine lv_aload_n hx hb d_WY_send_30 rfl (lv_at hl 1 rfl) ?_
    refine gt_WY (k := 4) (v := .int (f 4)) hx hb hts hown hK hP hq (hts _ (List.mem_cons_of_mem _ tw_42)) (by decide) rfl rfl d_WY_send_31 ?_
    refine lv_if_le (tgt := 50) hx hb d_WY_send_34 (by decide) (fun h_3 => ?_) (fun h_3 => ?_)
    ·
      have hG := hG.trans (if_pos h_3)
      refine lv_aload_n hx hb d_WY_send_50 rfl (lv_at hl 1 rfl) ?_
      refine gt_WY (k := 2) (v := .ref (ad (q + 1))) hx hb hts hown hK hP hq (hts _ (List.mem_cons_of_mem _ tw_40)) (by decide) rfl rfl d_WY_send_51 ?_
      refine lv_iload_n hx hb d_WY_send_54 rfl (lv_at hl 2 rfl) ?_
      refine lv_bipush (v := 7) hx hb d_WY_send_55 (by decide) ?_
      refine lv_iand hx hb d_WY_send_57 ?_
      refine lv_lload hx hb d_WY_send_58 (lv_at hl 0 rfl) ?_
      refine lv_aload_n hx hb d_WY_send_60 rfl (lv_at hl 1 rfl) ?_
      refine gt_WY (k := 3) (v := .long (g 3)) hx hb hts hown hK hP hq (hts _ (List.mem_cons_of_mem _ tw_41)) (by decide) rfl rfl d_WY_send_61 ?_
      refine lv_lxor hx hb d_WY_send_64 ?_
      refine as_WYb hx hb hK hi hP hS hq (fl_in7 _) d_WY_send_65 (fun H locs hP hS => ?_)
      refine lv_aload_n hx hb d_WY_send_66 rfl (lv_at hl 1 rfl) ?_
      refine lv_lconst (v := 0) hx hb d_WY_send_67 (by decide) ?_
      refine pt_WYJ (k := 3) hx hb hts hown hK hi hP hS hq (hts _ (List.mem_cons_of_mem _ tw_41)) (by decide) rfl rfl rfl (Nat.le_of_ble_eq_true rfl) rfl d_WY_send_68 (fun H locs hP hS => ?_)
      exact fl_vret hx hb hr hlocks hP hS (by rw [hG]) d_WY_send_71
    ·
      have hG := hG.trans (if_neg h_3)
      refine lv_aload_n hx hb d_WY_send_37 rfl (lv_at hl 1 rfl) ?_
      refine lv_dup hx hb d_WY_send_38 rfl ?_
      refine gt_WY (k := 4) (v := .int (f 4)) hx hb hts hown hK hP hq (hts _ (List.mem_cons_of_mem _ tw_42)) (by decide) rfl rfl d_WY_send_39 ?_
      refine lv_iconst (v := 1) hx hb d_WY_send_42 (by decide) ?_
      refine lv_isub hx hb d_WY_send_43 ?_
      refine pt_WY (k := 4) hx hb hts hown hK hi hP hS hq (hts _ (List.mem_cons_of_mem _ tw_42)) (by decide) rfl rfl rfl rfl (Nat.le_of_ble_eq_true rfl) rfl d_WY_send_44 (fun H locs hP hS => ?_)
      refine lv_goto (tgt := 66) hx hb d_WY_send_47 (by decide) ?_
      refine lv_aload_n hx hb d_WY_send_66 rfl (lv_at hl 1 rfl) ?_
      refine lv_lconst (v := 0) hx hb d_WY_send_67 (by decide) ?_
      refine pt_WYJ (k := 3) hx hb hts hown hK hi hP hS hq (hts _ (List.mem_cons_of_mem _ tw_41)) (by decide) rfl rfl rfl (Nat.le_of_ble_eq_true rfl) rfl d_WY_send_68 (fun H locs hP hS => ?_)
      exact fl_vret hx hb hr hlocks hP hS (by rw [hG]) d_WY_send_71
theorem hd_WY_send : y_WY_send.cls ≠ "java/lang/invoke/MethodHandle" ∧ y_WY_send.cls ≠ "java/lang/invoke/VarHandle" ∧ (parseMethodDescriptor y_WY_send.desc).map (fun d => d.parameters.length) = some 2 := by decide +kernel
theorem kv_WY_send {R : Room} {s : State} {args : Array Value} {c0 : Cond} {own : String} {index : Nat} (hts : ∀ w ∈ c0 :: gw, w.before args s = true) (hl : (Cond.methodLink own index y_WY_send).before args s = true) (hR : 3 + 1 ≤ R.frames ∧ 8 + (6 + 11) + 75 ≤ R.locals) : CallW R s args own "FarLink$Way" index y_WY_send b_WY_send 6 none w_WY_send ({ frames := 3, cells := 0, slots := 0, locals := 75 } : Room) 0 0 2 := ⟨callB_of 2 hts (gw_in tw_561) rfl rfl rfl (hts _ (List.mem_cons_of_mem _ tw_3)) hl hd_WY_send hR, hts _ (List.mem_cons_of_mem _ tw_559), hts _ (List.mem_cons_of_mem _ tw_560)⟩
def g_WY_hear (f : Nat → Int32) (g : Nat → Int64) (b : Nat → Int64) (x1 : Int32) : Int64 × (Nat → Int32) × (Nat → Int64) × (Nat → Int64) :=
  if (lg_cmp (b (((x1 - (f 1)) &&& 7).toNatClampNeg)) (-1)) = 0 then (((-1), f, g, (vp_updL b (((x1 - (f 1)) &&& 7).toNatClampNeg) (-1)))) else (if (f 0) = 0 then (if (lg_cmp (g_DC_infoOf (b (((x1 - (f 1)) &&& 7).toNatClampNeg))) (-1)) = 0 then (((g_DC_infoOf (b (((x1 - (f 1)) &&& 7).toNatClampNeg))), (upd f 6 ((f 6) + 1)), g, (vp_updL b (((x1 - (f 1)) &&& 7).toNatClampNeg) (-1)))) else (if (g_DC_syndromeOf (b (((x1 - (f 1)) &&& 7).toNatClampNeg))) = 0 then (((g_DC_infoOf (b (((x1 - (f 1)) &&& 7).toNatClampNeg))), f, g, (vp_updL b (((x1 - (f 1)) &&& 7).toNatClampNeg) (-1)))) else (((g_DC_infoOf (b (((x1 - (f 1)) &&& 7).toNatClampNeg))), (upd f 7 ((f 7) + 1)), g, (vp_updL b (((x1 - (f 1)) &&& 7).toNatClampNeg) (-1)))))) else (if (lg_cmp (g_UC_infoOf (b (((x1 - (f 1)) &&& 7).toNatClampNeg))) (-1)) = 0 then (((g_UC_infoOf (b (((x1 - (f 1)) &&& 7).toNatClampNeg))), (upd f 6 ((f 6) + 1)), g, (vp_updL b (((x1 - (f 1)) &&& 7).toNatClampNeg) (-1)))) else (if (g_UC_syndromeOf (b (((x1 - (f 1)) &&& 7).toNatClampNeg))) = 0 then (((g_UC_infoOf (b (((x1 - (f 1)) &&& 7).toNatClampNeg))), f, g, (vp_updL b (((x1 - (f 1)) &&& 7).toNatClampNeg) (-1)))) else (((g_UC_infoOf (b (((x1 - (f 1)) &&& 7).toNatClampNeg))), (upd f 7 ((f 7) + 1)), g, (vp_updL b (((x1 - (f 1)) &&& 7).toNatClampNeg) (-1)))))))
set_option maxHeartbeats 4000000 in
set_option maxRecDepth 100000 in
theorem c_WY_hear (l : Launch) {D : va_G} {ad : Nat → Nat} {cA : Nat → ClassId} {st : Nat → Nat} (hi : fl_inj ad 88) {q : Nat} (hq : is_WY q) (M : fl_M) (f : Nat → Int32) (g : Nat → Int64) (b : Nat → Int64) (x1 : Int32) : Met l y_WY_hear w_WY_hear ({ frames := 4, cells := 0, slots := 0, locals := 102 } : Room) (va_Pc [.ref (ad q), .int x1] (fl_B D cls (xt cA) (xSL st) xFN xMN ad (xc ad cA) 88 (pWY M q f g b))) (va_Ql (fun r M' => r = (g_WY_hear f g b x1).1 ∧ M' = (pWY M q ((g_WY_hear f g b x1).2.1) ((g_WY_hear f g b x1).2.2.1) ((g_WY_hear f g b x1).2.2.2))) (fl_E D cls ad (xc ad cA) 88) (fl_A ad 88)) 0 0 (fl_A ad 88) := by
  refine Met.ofW (cc := b_WY_hear) (maxL := 7) (ret := (some .long)) (by decide) rfl ?_
  intro p e s m args below meth c s₁ B hml hv
  obtain ⟨rfl, hP, hK, hSt, hN⟩ := hv
  have hx := B.exec
  have hb := B.bytes
  have hr := B.returns
  have hts := atoms_spec (ws := w_WY_hear) B.pre
  have hown : s.vm.findClass "FarLink$Way" = some m.cls := findClass_of_methodNamed B.named
  have hlocks := B.notSynchronized
  have hS : va_S (fl_A ad 88) s.heap s.heap [] := va_S.rf
  have hl := lv_entry ([.ref (ad q), .int x1]) (n := 7) (Nat.le_of_ble_eq_true rfl)
  rw [lg_entry_eq]
  generalize (lg_sl ([.ref (ad q), .int x1]) ++ List.replicate (7 - (lg_sl ([.ref (ad q), .int x1])).length) Slot.unset).toArray = ls at hl ⊢
  have hl : lv_has ls 7 [(0, .ref (ad q)), (1, .int x1)] := hl
  have hG := g_WY_hear.eq_1 f g b x1
  refine lv_iload_n hx hb d_WY_hear_0 rfl (lv_at hl 1 rfl) ?_
  refine lv_aload_n hx hb d_WY_hear_1 rfl (lv_at hl 0 rfl) ?_
  refine gt_WY (k := 1) (v := .int (f 1)) hx hb hts hown hK hP hq (hts _ (List.mem_cons_of_mem _ tw_39)) (by decide) rfl rfl d_WY_hear_2 ?_
  refine lv_isub hx hb d_WY_hear_5 ?_
  refine lv_bipush (v := 7) hx hb d_WY_hear_6 (by decide) ?_
  refine lv_iand hx hb d_WY_hear_8 ?_
  refine lv_istore_n (lv' := [(2, .int ((x1 - (f 1)) &&& 7)), (0, .ref (ad q)), (1, .int x1)]) hx hb d_WY_hear_9 rfl hl (by decide) rfl (fun ls hl => ?_)
  refine lv_aload_n hx hb d_WY_hear_10 rfl (lv_at hl 1 rfl) ?_
  refine gt_WY (k := 2) (v := .ref (ad (q + 1))) hx hb hts hown hK hP hq (hts _ (List.mem_cons_of_mem _ tw_40)) (by decide) rfl rfl d_WY_hear_11 ?_
  refine lv_iload_n hx hb d_WY_hear_14 rfl (lv_at hl 0 rfl) ?_
  refine al_WYb hx hb hK hP hq (fl_in7 _) d_WY_hear_15 ?_
  refine lv_lstore_n (lv' := [(3, .long (b (((x1 - (f 1)) &&& 7).toNatClampNeg))), (2, .int ((x1 - (f 1)) &&& 7)), (0, .ref (ad q)), (1, .int x1)]) hx hb d_WY_hear_16 rfl hl (by decide) rfl (fun ls hl => ?_)
  refine lv_aload_n hx hb d_WY_hear_17 rfl (lv_at hl 2 rfl) ?_
  refine gt_WY (k := 2) (v := .ref (ad (q + 1))) hx hb hts hown hK hP hq (hts _ (List.mem_cons_of_mem _ tw_40)) (by decide) rfl rfl d_WY_hear_18 ?_
  refine lv_iload_n hx hb d_WY_hear_21 rfl (lv_at hl 1 rfl) ?_
  refine lv_ldc2 (v := -1) hx hb hown (hts _ (List.mem_cons_of_mem _ tw_37)) d_WY_hear_22 ?_
  refine as_WYb hx hb hK hi hP hS hq (fl_in7 _) d_WY_hear_25 (fun H locs hP hS => ?_)
  refine lv_lload_n hx hb d_WY_hear_26 rfl (lv_at hl 0 rfl) ?_
  refine lv_ldc2 (v := -1) hx hb hown (hts _ (List.mem_cons_of_mem _ tw_37)) d_WY_hear_27 ?_
  refine W.lcmp hx hb d_WY_hear_30 ?_
  refine lv_if_ne (tgt := 38) hx hb d_WY_hear_31 (by decide) (fun h_1 => ?_) (fun h_1 => ?_)
  ·
    have hG := hG.trans (if_neg h_1)
    refine lv_aload_n hx hb d_WY_hear_38 rfl (lv_at hl 2 rfl) ?_
    refine gt_WY (k := 0) (v := .int (f 0)) hx hb hts hown hK hP hq (hts _ (List.mem_cons_of_mem _ tw_38)) (by decide) rfl rfl d_WY_hear_39 ?_
    refine lv_if_eq (tgt := 52) hx hb d_WY_hear_42 (by decide) (fun h_2 => ?_) (fun h_2 => ?_)
    ·
      have hG := hG.trans (if_pos h_2)
      refine lv_lload_n hx hb d_WY_hear_52 rfl (lv_at hl 0 rfl) ?_
      refine fl_calll (va_runS (As := [.long (b (((x1 - (f 1)) &&& 7).toNatClampNeg))]) (rest := []) ⟨hx, hb, hml, hown, hts⟩ (c_DC_infoOf l hi (pWY M q f g (vp_updL b (((x1 - (f 1)) &&& 7).toNatClampNeg) (-1))) (b (((x1 - (f 1)) &&& 7).toNatClampNeg))) (kv_DC_infoOf hts (hts _ (List.mem_cons_of_mem _ tw_407)) ⟨Nat.le_of_ble_eq_true rfl, Nat.le_of_ble_eq_true rfl⟩) (fl_preS hK hSt hN hS hP) rfl rfl hl.1 rfl (lv_room (Nat.le_of_ble_eq_true rfl)) d_WY_hear_53 ⟨Nat.zero_le _, Nat.zero_le _⟩) hS (fun H locs hP hS => ?_)
      refine lv_lstore (lv' := [(5, .long (g_DC_infoOf (b (((x1 - (f 1)) &&& 7).toNatClampNeg)))), (3, .long (b (((x1 - (f 1)) &&& 7).toNatClampNeg))), (2, .int ((x1 - (f 1)) &&& 7)), (0, .ref (ad q)), (1, .int x1)]) hx hb d_WY_hear_56 hl (by decide) rfl (fun ls hl => ?_)
      refine lv_lload hx hb d_WY_hear_58 (lv_at hl 0 rfl) ?_
      refine lv_ldc2 (v := -1) hx hb hown (hts _ (List.mem_cons_of_mem _ tw_37)) d_WY_hear_60 ?_
      refine W.lcmp hx hb d_WY_hear_63 ?_
      refine lv_if_ne (tgt := 80) hx hb d_WY_hear_64 (by decide) (fun h_3 => ?_) (fun h_3 => ?_)
      ·
        have hG := hG.trans (if_neg h_3)
        refine lv_aload_n hx hb d_WY_hear_80 rfl (lv_at hl 3 rfl) ?_
        refine gt_WY (k := 0) (v := .int (f 0)) hx hb hts hown hK hP hq (hts _ (List.mem_cons_of_mem _ tw_38)) (by decide) rfl rfl d_WY_hear_81 ?_
        refine lv_if_eq (tgt := 94) hx hb d_WY_hear_84 (by decide) (fun _ => ?_) (fun h_4 => absurd (h_2) h_4)
        refine lv_lload_n hx hb d_WY_hear_94 rfl (lv_at hl 1 rfl) ?_
        refine fl_calli (va_runS (As := [.long (b (((x1 - (f 1)) &&& 7).toNatClampNeg))]) (rest := []) ⟨hx, hb, hml, hown, hts⟩ (c_DC_syndromeOf l hi (pWY M q f g (vp_updL b (((x1 - (f 1)) &&& 7).toNatClampNeg) (-1))) (b (((x1 - (f 1)) &&& 7).toNatClampNeg))) (kv_DC_syndromeOf hts (hts _ (List.mem_cons_of_mem _ tw_443)) ⟨Nat.le_of_ble_eq_true rfl, Nat.le_of_ble_eq_true rfl⟩) (fl_preS hK hSt hN hS hP) rfl rfl hl.1 rfl (lv_room (Nat.le_of_ble_eq_true rfl)) d_WY_hear_95 ⟨Nat.zero_le _, Nat.zero_le _⟩) hS (fun H locs hP hS => ?_)
        refine lv_if_eq (tgt := 111) hx hb d_WY_hear_98 (by decide) (fun h_5 => ?_) (fun h_5 => ?_)
        ·
          have hG := hG.trans (if_pos h_5)
          refine lv_lload hx hb d_WY_hear_111 (lv_at hl 0 rfl) ?_
          exact fl_lret hx hb hr hlocks hP hS (congrArg Prod.fst hG).symm (by rw [hG]) d_WY_hear_113
        ·
          have hG := hG.trans (if_neg h_5)
          refine lv_aload_n hx hb d_WY_hear_101 rfl (lv_at hl 3 rfl) ?_
          refine lv_dup hx hb d_WY_hear_102 rfl ?_
          refine gt_WY (k := 7) (v := .int (f 7)) hx hb hts hown hK hP hq (hts _ (List.mem_cons_of_mem _ tw_48)) (by decide) rfl rfl d_WY_hear_103 ?_
          refine lv_iconst (v := 1) hx hb d_WY_hear_106 (by decide) ?_
          refine lv_iadd hx hb d_WY_hear_107 ?_
          refine pt_WY (k := 7) hx hb hts hown hK hi hP hS hq (hts _ (List.mem_cons_of_mem _ tw_48)) (by decide) rfl rfl rfl rfl (Nat.le_of_ble_eq_true rfl) rfl d_WY_hear_108 (fun H locs hP hS => ?_)
          refine lv_lload hx hb d_WY_hear_111 (lv_at hl 0 rfl) ?_
          exact fl_lret hx hb hr hlocks hP hS (congrArg Prod.fst hG).symm (by rw [hG]) d_WY_hear_113
      ·
        have hG := hG.trans (if_pos h_3)
        refine lv_aload_n hx hb d_WY_hear_67 rfl (lv_at hl 3 rfl) ?_
        refine lv_dup hx hb d_WY_hear_68 rfl ?_
        refine gt_WY (k := 6) (v := .int (f 6)) hx hb hts hown hK hP hq (hts _ (List.mem_cons_of_mem _ tw_46)) (by decide) rfl rfl d_WY_hear_69 ?_
        refine lv_iconst (v := 1) hx hb d_WY_hear_72 (by decide) ?_
        refine lv_iadd hx hb d_WY_hear_73 ?_
        refine pt_WY (k := 6) hx hb hts hown hK hi hP hS hq (hts _ (List.mem_cons_of_mem _ tw_46)) (by decide) rfl rfl rfl rfl (Nat.le_of_ble_eq_true rfl) rfl d_WY_hear_74 (fun H locs hP hS => ?_)
        refine lv_goto (tgt := 111) hx hb d_WY_hear_77 (by decide) ?_
        refine lv_lload hx hb d_WY_hear_111 (lv_at hl 0 rfl) ?_
        exact fl_lret hx hb hr hlocks hP hS (congrArg Prod.fst hG).symm (by rw [hG]) d_WY_hear_113
    ·
      have hG := hG.trans (if_neg h_2)
      refine lv_lload_n hx hb d_WY_hear_45 rfl (lv_at hl 0 rfl) ?_
      refine fl_calll (va_runS (As := [.long (b (((x1 - (f 1)) &&& 7).toNatClampNeg))]) (rest := []) ⟨hx, hb, hml, hown, hts⟩ (c_UC_infoOf l hi (pWY M q f g (vp_updL b (((x1 - (f 1)) &&& 7).toNatClampNeg) (-1))) (b (((x1 - (f 1)) &&& 7).toNatClampNeg))) (kv_UC_infoOf hts (hts _ (List.mem_cons_of_mem _ tw_387)) ⟨Nat.le_of_ble_eq_true rfl, Nat.le_of_ble_eq_true rfl⟩) (fl_preS hK hSt hN hS hP) rfl rfl hl.1 rfl (lv_room (Nat.le_of_ble_eq_true rfl)) d_WY_hear_46 ⟨Nat.zero_le _, Nat.zero_le _⟩) hS (fun H locs hP hS => ?_)
      refine lv_goto (tgt := 56) hx hb d_WY_hear_49 (by decide) ?_
      refine lv_lstore (lv' := [(5, .long (g_UC_infoOf (b (((x1 - (f 1)) &&& 7).toNatClampNeg)))), (3, .long (b (((x1 - (f 1)) &&& 7).toNatClampNeg))), (2, .int ((x1 - (f 1)) &&& 7)), (0, .ref (ad q)), (1, .int x1)]) hx hb d_WY_hear_56 hl (by decide) rfl (fun ls hl => ?_)
      refine lv_lload hx hb d_WY_hear_58 (lv_at hl 0 rfl) ?_
      refine lv_ldc2 (v := -1) hx hb hown (hts _ (List.mem_cons_of_mem _ tw_37)) d_WY_hear_60 ?_
      refine W.lcmp hx hb d_WY_hear_63 ?_
      refine lv_if_ne (tgt := 80) hx hb d_WY_hear_64 (by decide) (fun h_6 => ?_) (fun h_6 => ?_)
      ·
        have hG := hG.trans (if_neg h_6)
        refine lv_aload_n hx hb d_WY_hear_80 rfl (lv_at hl 3 rfl) ?_
        refine gt_WY (k := 0) (v := .int (f 0)) hx hb hts hown hK hP hq (hts _ (List.mem_cons_of_mem _ tw_38)) (by decide) rfl rfl d_WY_hear_81 ?_
        refine lv_if_eq (tgt := 94) hx hb d_WY_hear_84 (by decide) (fun h_7 => absurd h_7 (h_2)) (fun _ => ?_)
        refine lv_lload_n hx hb d_WY_hear_87 rfl (lv_at hl 1 rfl) ?_
        refine fl_calli (va_runS (As := [.long (b (((x1 - (f 1)) &&& 7).toNatClampNeg))]) (rest := []) ⟨hx, hb, hml, hown, hts⟩ (c_UC_syndromeOf l hi (pWY M q f g (vp_updL b (((x1 - (f 1)) &&& 7).toNatClampNeg) (-1))) (b (((x1 - (f 1)) &&& 7).toNatClampNeg))) (kv_UC_syndromeOf hts (hts _ (List.mem_cons_of_mem _ tw_442)) ⟨Nat.le_of_ble_eq_true rfl, Nat.le_of_ble_eq_true rfl⟩) (fl_preS hK hSt hN hS hP) rfl rfl hl.1 rfl (lv_room (Nat.le_of_ble_eq_true rfl)) d_WY_hear_88 ⟨Nat.zero_le _, Nat.zero_le _⟩) hS (fun H locs hP hS => ?_)
        refine lv_goto (tgt := 98) hx hb d_WY_hear_91 (by decide) ?_
        refine lv_if_eq (tgt := 111) hx hb d_WY_hear_98 (by decide) (fun h_8 => ?_) (fun h_8 => ?_)
        ·
          have hG := hG.trans (if_pos h_8)
          refine lv_lload hx hb d_WY_hear_111 (lv_at hl 0 rfl) ?_
          exact fl_lret hx hb hr hlocks hP hS (congrArg Prod.fst hG).symm (by rw [hG]) d_WY_hear_113
        ·
          have hG := hG.trans (if_neg h_8)
          refine lv_aload_n hx hb d_WY_hear_101 rfl (lv_at hl 3 rfl) ?_
          refine lv_dup hx hb d_WY_hear_102 rfl ?_
          refine gt_WY (k := 7) (v := .int (f 7)) hx hb hts hown hK hP hq (hts _ (List.mem_cons_of_mem _ tw_48)) (by decide) rfl rfl d_WY_hear_103 ?_
          refine lv_iconst (v := 1) hx hb d_WY_hear_106 (by decide) ?_
          refine lv_iadd hx hb d_WY_hear_107 ?_
          refine pt_WY (k := 7) hx hb hts hown hK hi hP hS hq (hts _ (List.mem_cons_of_mem _ tw_48)) (by decide) rfl rfl rfl rfl (Nat.le_of_ble_eq_true rfl) rfl d_WY_hear_108 (fun H locs hP hS => ?_)
          refine lv_lload hx hb d_WY_hear_111 (lv_at hl 0 rfl) ?_
          exact fl_lret hx hb hr hlocks hP hS (congrArg Prod.fst hG).symm (by rw [hG]) d_WY_hear_113
      ·
        have hG := hG.trans (if_pos h_6)
        refine lv_aload_n hx hb d_WY_hear_67 rfl (lv_at hl 3 rfl) ?_
        refine lv_dup hx hb d_WY_hear_68 rfl ?_
        refine gt_WY (k := 6) (v := .int (f 6)) hx hb hts hown hK hP hq (hts _ (List.mem_cons_of_mem _ tw_46)) (by decide) rfl rfl d_WY_hear_69 ?_
        refine lv_iconst (v := 1) hx hb d_WY_hear_72 (by decide) ?_
        refine lv_iadd hx hb d_WY_hear_73 ?_
        refine pt_WY (k := 6) hx hb hts hown hK hi hP hS hq (hts _ (List.mem_cons_of_mem _ tw_46)) (by decide) rfl rfl rfl rfl (Nat.le_of_ble_eq_true rfl) rfl d_WY_hear_74 (fun H locs hP hS => ?_)
        refine lv_goto (tgt := 111) hx hb d_WY_hear_77 (by decide) ?_
        refine lv_lload hx hb d_WY_hear_111 (lv_at hl 0 rfl) ?_
        exact fl_lret hx hb hr hlocks hP hS (congrArg Prod.fst hG).symm (by rw [hG]) d_WY_hear_113
  ·
    have hG := hG.trans (if_pos h_1)
    refine lv_ldc2 (v := -1) hx hb hown (hts _ (List.mem_cons_of_mem _ tw_37)) d_WY_hear_34 ?_
    exact fl_lret hx hb hr hlocks hP hS (congrArg Prod.fst hG).symm (by rw [hG]) d_WY_hear_37
theorem hd_WY_hear : y_WY_hear.cls ≠ "java/lang/invoke/MethodHandle" ∧ y_WY_hear.cls ≠ "java/lang/invoke/VarHandle" ∧ (parseMethodDescriptor y_WY_hear.desc).map (fun d => d.parameters.length) = some 1 := by decide +kernel
theorem kv_WY_hear {R : Room} {s : State} {args : Array Value} {c0 : Cond} {own : String} {index : Nat} (hts : ∀ w ∈ c0 :: gw, w.before args s = true) (hl : (Cond.methodLink own index y_WY_hear).before args s = true) (hR : 4 + 1 ≤ R.frames ∧ 8 + (7 + 11) + 102 ≤ R.locals) : CallW R s args own "FarLink$Way" index y_WY_hear b_WY_hear 7 (some .long) w_WY_hear ({ frames := 4, cells := 0, slots := 0, locals := 102 } : Room) 0 0 1 := ⟨callB_of 1 hts (gw_in tw_386) rfl rfl rfl (hts _ (List.mem_cons_of_mem _ tw_3)) hl hd_WY_hear hR, hts _ (List.mem_cons_of_mem _ tw_384), hts _ (List.mem_cons_of_mem _ tw_385)⟩
