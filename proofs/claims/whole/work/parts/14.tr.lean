/-! contracts: 14.tr -/
def g_TR_becomeCancelled (f : Nat → Int32) (w : Nat → Int32) : Int32 × (Nat → Int32) × (Nat → Int32) :=
  if (f 14) = 0 then (if (f 12) = 0 then ((1, (upd (upd (upd (upd f 12 1) 6 131072) 7 1) 11 0), w)) else ((0, f, w))) else ((0, f, w))
set_option maxHeartbeats 4000000 in
set_option maxRecDepth 100000 in
theorem c_TR_becomeCancelled (l : Launch) {D : va_G} {ad : Nat → Nat} {cA : Nat → ClassId} {st : Nat → Nat} (hi : fl_inj ad 88) {q : Nat} (hq : is_TR q) (M : fl_M) (f : Nat → Int32) (w : Nat → Int32) : Met l y_TR_becomeCancelled w_TR_becomeCancelled ({ frames := 0, cells := 0, slots := 0, locals := 0 } : Room) (va_Pc [.ref (ad q)] (fl_B D cls (xt cA) (xSL st) xFN xMN ad (xc ad cA) 88 (pTR M q f w))) (va_Qi (fun r M' => r = (g_TR_becomeCancelled f w).1 ∧ M' = (pTR M q ((g_TR_becomeCancelled f w).2.1) ((g_TR_becomeCancelled f w).2.2))) (fl_E D cls ad (xc ad cA) 88) (fl_A ad 88)) 0 0 (fl_A ad 88) := by
  refine Met.ofW (cc := b_TR_becomeCancelled) (maxL := 1) (ret := (some .boolean)) (by decide) rfl ?_
  intro p e s m args below meth c s₁ B hml hv
  obtain ⟨rfl, hP, hK, hSt, hN⟩ := hv
  have hx := B.exec
  have hb := B.bytes
  have hr := B.returns
  have hts := atoms_spec (ws := w_TR_becomeCancelled) B.pre
  have hown : s.vm.findClass "FarLink$Transaction" = some m.cls := findClass_of_methodNamed B.named
  have hlocks := B.notSynchronized
  have hS : va_S (fl_A ad 88) s.heap s.heap [] := va_S.rf
  have hl := lv_entry ([.ref (ad q)]) (n := 1) (Nat.le_of_ble_eq_true rfl)
  rw [lg_entry_eq]
  generalize (lg_sl ([.ref (ad q)]) ++ List.replicate (1 - (lg_sl ([.ref (ad q)])).length) Slot.unset).toArray = ls at hl ⊢
  have hl : lv_has ls 1 [(0, .ref (ad q))] := hl
  have hG := g_TR_becomeCancelled.eq_1 f w
  refine lv_aload_n hx hb d_TR_becomeCancelled_0 rfl (lv_at hl 0 rfl) ?_
  refine gt_TR (k := 14) (v := .int (f 14)) hx hb hts hown hK hP hq (hts _ (List.mem_cons_of_mem _ tw_140)) (by decide) rfl rfl d_TR_becomeCancelled_1 ?_
  refine lv_if_ne (tgt := 14) hx hb d_TR_becomeCancelled_4 (by decide) (fun h_1 => ?_) (fun h_1 => ?_)
  ·
    have hG := hG.trans (if_neg h_1)
    refine lv_iconst (v := 0) hx hb d_TR_becomeCancelled_14 (by decide) ?_
    exact fl_zret hx hb hr hlocks hP hS (rfl) (congrArg Prod.fst hG).symm (by rw [hG]) d_TR_becomeCancelled_15
  ·
    have hG := hG.trans (if_pos h_1)
    refine lv_aload_n hx hb d_TR_becomeCancelled_7 rfl (lv_at hl 0 rfl) ?_
    refine gt_TR (k := 12) (v := .int (f 12)) hx hb hts hown hK hP hq (hts _ (List.mem_cons_of_mem _ tw_138)) (by decide) rfl rfl d_TR_becomeCancelled_8 ?_
    refine lv_if_eq (tgt := 16) hx hb d_TR_becomeCancelled_11 (by decide) (fun h_2 => ?_) (fun h_2 => ?_)
    ·
      have hG := hG.trans (if_pos h_2)
      refine lv_aload_n hx hb d_TR_becomeCancelled_16 rfl (lv_at hl 0 rfl) ?_
      refine lv_iconst (v := 1) hx hb d_TR_becomeCancelled_17 (by decide) ?_
      refine pt_TR (k := 12) hx hb hts hown hK hi hP hS hq (hts _ (List.mem_cons_of_mem _ tw_138)) (by decide) rfl rfl (rfl) (rfl) (Nat.le_of_ble_eq_true rfl) rfl d_TR_becomeCancelled_18 (fun H locs hP hS => ?_)
      refine lv_aload_n hx hb d_TR_becomeCancelled_21 rfl (lv_at hl 0 rfl) ?_
      refine lv_ldc (v := 131072) hx hb hown (hts _ (List.mem_cons_of_mem _ tw_340)) d_TR_becomeCancelled_22 ?_
      refine pt_TR (k := 6) hx hb hts hown hK hi hP hS hq (hts _ (List.mem_cons_of_mem _ tw_132)) (by decide) rfl rfl rfl rfl (Nat.le_of_ble_eq_true rfl) rfl d_TR_becomeCancelled_24 (fun H locs hP hS => ?_)
      refine lv_aload_n hx hb d_TR_becomeCancelled_27 rfl (lv_at hl 0 rfl) ?_
      refine lv_iconst (v := 1) hx hb d_TR_becomeCancelled_28 (by decide) ?_
      refine pt_TR (k := 7) hx hb hts hown hK hi hP hS hq (hts _ (List.mem_cons_of_mem _ tw_133)) (by decide) rfl rfl rfl rfl (Nat.le_of_ble_eq_true rfl) rfl d_TR_becomeCancelled_29 (fun H locs hP hS => ?_)
      refine lv_aload_n hx hb d_TR_becomeCancelled_32 rfl (lv_at hl 0 rfl) ?_
      refine lv_iconst (v := 0) hx hb d_TR_becomeCancelled_33 (by decide) ?_
      refine pt_TR (k := 11) hx hb hts hown hK hi hP hS hq (hts _ (List.mem_cons_of_mem _ tw_137)) (by decide) rfl rfl (rfl) (rfl) (Nat.le_of_ble_eq_true rfl) rfl d_TR_becomeCancelled_34 (fun H locs hP hS => ?_)
      refine lv_iconst (v := 1) hx hb d_TR_becomeCancelled_37 (by decide) ?_
      exact fl_zret hx hb hr hlocks hP hS (rfl) (congrArg Prod.fst hG).symm (by rw [hG]) d_TR_becomeCancelled_38
    ·
      have hG := hG.trans (if_neg h_2)
      refine lv_iconst (v := 0) hx hb d_TR_becomeCancelled_14 (by decide) ?_
      exact fl_zret hx hb hr hlocks hP hS (rfl) (congrArg Prod.fst hG).symm (by rw [hG]) d_TR_becomeCancelled_15
theorem z_TR_becomeCancelled (f : Nat → Int32) (w : Nat → Int32) : (g_TR_becomeCancelled f w).1 &&& 1 = (g_TR_becomeCancelled f w).1 := by
  unfold g_TR_becomeCancelled
  repeat (first | split | (show (0 : Int32) &&& 1 = 0; rfl) | (show (1 : Int32) &&& 1 = 1; rfl) | rfl)
theorem hd_TR_becomeCancelled : y_TR_becomeCancelled.cls ≠ "java/lang/invoke/MethodHandle" ∧ y_TR_becomeCancelled.cls ≠ "java/lang/invoke/VarHandle" ∧ (parseMethodDescriptor y_TR_becomeCancelled.desc).map (fun d => d.parameters.length) = some 0 := by decide +kernel
theorem kv_TR_becomeCancelled {R : Room} {s : State} {args : Array Value} {c0 : Cond} {own : String} {index : Nat} (hts : ∀ w ∈ c0 :: gw, w.before args s = true) (hl : (Cond.methodLink own index y_TR_becomeCancelled).before args s = true) (hR : 0 + 1 ≤ R.frames ∧ 8 + (1 + 11) + 0 ≤ R.locals) : CallW R s args own "FarLink$Transaction" index y_TR_becomeCancelled b_TR_becomeCancelled 1 (some .boolean) w_TR_becomeCancelled ({ frames := 0, cells := 0, slots := 0, locals := 0 } : Room) 0 0 0 := ⟨callB_of 0 hts (gw_in tw_339) rfl rfl rfl (hts _ (List.mem_cons_of_mem _ tw_6)) hl hd_TR_becomeCancelled hR, hts _ (List.mem_cons_of_mem _ tw_337), hts _ (List.mem_cons_of_mem _ tw_338)⟩
def g_TR_endWith (f : Nat → Int32) (w : Nat → Int32) (x1 : Int32) : (Nat → Int32) × (Nat → Int32) :=
  ((upd (upd (upd (upd f 14 1) 10 x1) 13 0) 6 ((f 6) &&& 262144)), w)
set_option maxHeartbeats 4000000 in
set_option maxRecDepth 100000 in
theorem c_TR_endWith (l : Launch) {D : va_G} {ad : Nat → Nat} {cA : Nat → ClassId} {st : Nat → Nat} (hi : fl_inj ad 88) {q : Nat} (hq : is_TR q) (M : fl_M) (f : Nat → Int32) (w : Nat → Int32) (x1 : Int32) : Met l y_TR_endWith w_TR_endWith ({ frames := 0, cells := 0, slots := 0, locals := 0 } : Room) (va_Pc [.ref (ad q), .int x1] (fl_B D cls (xt cA) (xSL st) xFN xMN ad (xc ad cA) 88 (pTR M q f w))) (va_Qv (fun M' => M' = (pTR M q ((g_TR_endWith f w x1).1) ((g_TR_endWith f w x1).2))) (fl_E D cls ad (xc ad cA) 88) (fl_A ad 88)) 0 0 (fl_A ad 88) := by
  refine Met.ofW (cc := b_TR_endWith) (maxL := 2) (ret := none) (by decide) rfl ?_
  intro p e s m args below meth c s₁ B hml hv
  obtain ⟨rfl, hP, hK, hSt, hN⟩ := hv
  have hx := B.exec
  have hb := B.bytes
  have hr := B.returns
  have hts := atoms_spec (ws := w_TR_endWith) B.pre
  have hown : s.vm.findClass "FarLink$Transaction" = some m.cls := findClass_of_methodNamed B.named
  have hlocks := B.notSynchronized
  have hS : va_S (fl_A ad 88) s.heap s.heap [] := va_S.rf
  have hl := lv_entry ([.ref (ad q), .int x1]) (n := 2) (Nat.le_of_ble_eq_true rfl)
  rw [lg_entry_eq]
  generalize (lg_sl ([.ref (ad q), .int x1]) ++ List.replicate (2 - (lg_sl ([.ref (ad q), .int x1])).length) Slot.unset).toArray = ls at hl ⊢
  have hl : lv_has ls 2 [(0, .ref (ad q)), (1, .int x1)] := hl
  have hG := g_TR_endWith.eq_1 f w x1
  refine lv_aload_n hx hb d_TR_endWith_0 rfl (lv_at hl 0 rfl) ?_
  refine lv_iconst (v := 1) hx hb d_TR_endWith_1 (by decide) ?_
  refine pt_TR (k := 14) hx hb hts hown hK hi hP hS hq (hts _ (List.mem_cons_of_mem _ tw_140)) (by decide) rfl rfl (rfl) (rfl) (Nat.le_of_ble_eq_true rfl) rfl d_TR_endWith_2 (fun H locs hP hS => ?_)
  refine lv_aload_n hx hb d_TR_endWith_5 rfl (lv_at hl 0 rfl) ?_
  refine lv_iload_n hx hb d_TR_endWith_6 rfl (lv_at hl 1 rfl) ?_
  refine pt_TR (k := 10) hx hb hts hown hK hi hP hS hq (hts _ (List.mem_cons_of_mem _ tw_136)) (by decide) rfl rfl rfl rfl (Nat.le_of_ble_eq_true rfl) rfl d_TR_endWith_7 (fun H locs hP hS => ?_)
  refine lv_aload_n hx hb d_TR_endWith_10 rfl (lv_at hl 0 rfl) ?_
  refine lv_iconst (v := 0) hx hb d_TR_endWith_11 (by decide) ?_
  refine pt_TR (k := 13) hx hb hts hown hK hi hP hS hq (hts _ (List.mem_cons_of_mem _ tw_139)) (by decide) rfl rfl (rfl) (rfl) (Nat.le_of_ble_eq_true rfl) rfl d_TR_endWith_12 (fun H locs hP hS => ?_)
  refine lv_aload_n hx hb d_TR_endWith_15 rfl (lv_at hl 0 rfl) ?_
  refine lv_dup hx hb d_TR_endWith_16 rfl ?_
  refine gt_TR (k := 6) (v := .int (f 6)) hx hb hts hown hK hP hq (hts _ (List.mem_cons_of_mem _ tw_132)) (by decide) rfl rfl d_TR_endWith_17 ?_
  refine lv_ldc (v := 262144) hx hb hown (hts _ (List.mem_cons_of_mem _ tw_618)) d_TR_endWith_20 ?_
  refine lv_iand hx hb d_TR_endWith_22 ?_
  refine pt_TR (k := 6) hx hb hts hown hK hi hP hS hq (hts _ (List.mem_cons_of_mem _ tw_132)) (by decide) rfl rfl rfl rfl (Nat.le_of_ble_eq_true rfl) rfl d_TR_endWith_23 (fun H locs hP hS => ?_)
  exact fl_vret hx hb hr hlocks hP hS (by rw [hG]) d_TR_endWith_26
theorem hd_TR_endWith : y_TR_endWith.cls ≠ "java/lang/invoke/MethodHandle" ∧ y_TR_endWith.cls ≠ "java/lang/invoke/VarHandle" ∧ (parseMethodDescriptor y_TR_endWith.desc).map (fun d => d.parameters.length) = some 1 := by decide +kernel
theorem kv_TR_endWith {R : Room} {s : State} {args : Array Value} {c0 : Cond} {own : String} {index : Nat} (hts : ∀ w ∈ c0 :: gw, w.before args s = true) (hl : (Cond.methodLink own index y_TR_endWith).before args s = true) (hR : 0 + 1 ≤ R.frames ∧ 8 + (2 + 11) + 0 ≤ R.locals) : CallW R s args own "FarLink$Transaction" index y_TR_endWith b_TR_endWith 2 none w_TR_endWith ({ frames := 0, cells := 0, slots := 0, locals := 0 } : Room) 0 0 1 := ⟨callB_of 1 hts (gw_in tw_617) rfl rfl rfl (hts _ (List.mem_cons_of_mem _ tw_6)) hl hd_TR_endWith hR, hts _ (List.mem_cons_of_mem _ tw_616), hts _ (List.mem_cons_of_mem _ ps_TR_endWith)⟩
def g_TR_stepIdle (f : Nat → Int32) (w : Nat → Int32) : (Nat → Int32) × (Nat → Int32) :=
  if ((f 9) - 1) = 0 then ((((g_TR_endWith (upd f 9 ((f 9) - 1)) w 4).1), ((g_TR_endWith (upd f 9 ((f 9) - 1)) w 4).2))) else (((upd f 9 ((f 9) - 1)), w))
set_option maxHeartbeats 4000000 in
set_option maxRecDepth 100000 in
theorem c_TR_stepIdle (l : Launch) {D : va_G} {ad : Nat → Nat} {cA : Nat → ClassId} {st : Nat → Nat} (hi : fl_inj ad 88) {q : Nat} (hq : is_TR q) (M : fl_M) (f : Nat → Int32) (w : Nat → Int32) : Met l y_TR_stepIdle w_TR_stepIdle ({ frames := 1, cells := 0, slots := 0, locals := 21 } : Room) (va_Pc [.ref (ad q)] (fl_B D cls (xt cA) (xSL st) xFN xMN ad (xc ad cA) 88 (pTR M q f w))) (va_Qv (fun M' => M' = (pTR M q ((g_TR_stepIdle f w).1) ((g_TR_stepIdle f w).2))) (fl_E D cls ad (xc ad cA) 88) (fl_A ad 88)) 0 0 (fl_A ad 88) := by
  refine Met.ofW (cc := b_TR_stepIdle) (maxL := 1) (ret := none) (by decide) rfl ?_
  intro p e s m args below meth c s₁ B hml hv
  obtain ⟨rfl, hP, hK, hSt, hN⟩ := hv
  have hx := B.exec
  have hb := B.bytes
  have hr := B.returns
  have hts := atoms_spec (ws := w_TR_stepIdle) B.pre
  have hown : s.vm.findClass "FarLink$Transaction" = some m.cls := findClass_of_methodNamed B.named
  have hlocks := B.notSynchronized
  have hS : va_S (fl_A ad 88) s.heap s.heap [] := va_S.rf
  have hl := lv_entry ([.ref (ad q)]) (n := 1) (Nat.le_of_ble_eq_true rfl)
  rw [lg_entry_eq]
  generalize (lg_sl ([.ref (ad q)]) ++ List.replicate (1 - (lg_sl ([.ref (ad q)])).length) Slot.unset).toArray = ls at hl ⊢
  have hl : lv_has ls 1 [(0, .ref (ad q))] := hl
  have hG := g_TR_stepIdle.eq_1 f w
  refine lv_aload_n hx hb d_TR_stepIdle_0 rfl (lv_at hl 0 rfl) ?_
  refine lv_dup hx hb d_TR_stepIdle_1 rfl ?_
  refine gt_TR (k := 9) (v := .int (f 9)) hx hb hts hown hK hP hq (hts _ (List.mem_cons_of_mem _ tw_135)) (by decide) rfl rfl d_TR_stepIdle_2 ?_
  refine lv_iconst (v := 1) hx hb d_TR_stepIdle_5 (by decide) ?_
  refine lv_isub hx hb d_TR_stepIdle_6 ?_
  refine pt_TR (k := 9) hx hb hts hown hK hi hP hS hq (hts _ (List.mem_cons_of_mem _ tw_135)) (by decide) rfl rfl rfl rfl (Nat.le_of_ble_eq_true rfl) rfl d_TR_stepIdle_7 (fun H locs hP hS => ?_)
  refine lv_aload_n hx hb d_TR_stepIdle_10 rfl (lv_at hl 0 rfl) ?_
  refine gt_TR (k := 9) (v := .int ((f 9) - 1)) hx hb hts hown hK hP hq (hts _ (List.mem_cons_of_mem _ tw_135)) (by decide) rfl rfl d_TR_stepIdle_11 ?_
  refine lv_if_ne (tgt := 22) hx hb d_TR_stepIdle_14 (by decide) (fun h_1 => ?_) (fun h_1 => ?_)
  ·
    have hG := hG.trans (if_neg h_1)
    exact fl_vret hx hb hr hlocks hP hS (by rw [hG]) d_TR_stepIdle_22
  ·
    have hG := hG.trans (if_pos h_1)
    refine lv_aload_n hx hb d_TR_stepIdle_17 rfl (lv_at hl 0 rfl) ?_
    refine lv_iconst (v := 4) hx hb d_TR_stepIdle_18 (by decide) ?_
    refine fl_callv (va_runV (As := [.int 4]) (rest := []) ⟨hx, hb, hml, hown, hts⟩ (c_TR_endWith l hi hq M (upd f 9 ((f 9) - 1)) w 4) (kv_TR_endWith hts (hts _ (List.mem_cons_of_mem _ tw_614)) ⟨Nat.le_of_ble_eq_true rfl, Nat.le_of_ble_eq_true rfl⟩) (fl_preV hK hSt hN hS hP (lt_TR hq) (kc_TR hq) rfl) rfl rfl hl.1 rfl (lv_room (Nat.le_of_ble_eq_true rfl)) d_TR_stepIdle_19 ⟨Nat.zero_le _, Nat.zero_le _⟩) hS (fun H locs hP hS => ?_)
    exact fl_vret hx hb hr hlocks hP hS (by rw [hG]) d_TR_stepIdle_22
theorem hd_TR_stepIdle : y_TR_stepIdle.cls ≠ "java/lang/invoke/MethodHandle" ∧ y_TR_stepIdle.cls ≠ "java/lang/invoke/VarHandle" ∧ (parseMethodDescriptor y_TR_stepIdle.desc).map (fun d => d.parameters.length) = some 0 := by decide +kernel
theorem kv_TR_stepIdle {R : Room} {s : State} {args : Array Value} {c0 : Cond} {own : String} {index : Nat} (hts : ∀ w ∈ c0 :: gw, w.before args s = true) (hl : (Cond.methodLink own index y_TR_stepIdle).before args s = true) (hR : 1 + 1 ≤ R.frames ∧ 8 + (1 + 11) + 21 ≤ R.locals) : CallW R s args own "FarLink$Transaction" index y_TR_stepIdle b_TR_stepIdle 1 none w_TR_stepIdle ({ frames := 1, cells := 0, slots := 0, locals := 21 } : Room) 0 0 0 := ⟨callB_of 0 hts (gw_in tw_635) rfl rfl rfl (hts _ (List.mem_cons_of_mem _ tw_6)) hl hd_TR_stepIdle hR, hts _ (List.mem_cons_of_mem _ tw_634), hts _ (List.mem_cons_of_mem _ ps_TR_stepIdle)⟩
def g_TR_stepClock (f : Nat → Int32) (w : Nat → Int32) : (Nat → Int32) × (Nat → Int32) :=
  if ((f 8) - 1) ≤ 0 then (if (f 7) = 4 then ((((g_TR_endWith (upd f 8 ((f 8) - 1)) w 3).1), ((g_TR_endWith (upd f 8 ((f 8) - 1)) w 3).2))) else (((upd (upd (upd f 8 ((f 8) - 1)) 7 ((f 7) + 1)) 6 ((f 6) ||| 131072)), w))) else (((upd f 8 ((f 8) - 1)), w))
set_option maxHeartbeats 4000000 in
set_option maxRecDepth 100000 in
theorem c_TR_stepClock (l : Launch) {D : va_G} {ad : Nat → Nat} {cA : Nat → ClassId} {st : Nat → Nat} (hi : fl_inj ad 88) {q : Nat} (hq : is_TR q) (M : fl_M) (f : Nat → Int32) (w : Nat → Int32) : Met l y_TR_stepClock w_TR_stepClock ({ frames := 1, cells := 0, slots := 0, locals := 21 } : Room) (va_Pc [.ref (ad q)] (fl_B D cls (xt cA) (xSL st) xFN xMN ad (xc ad cA) 88 (pTR M q f w))) (va_Qv (fun M' => M' = (pTR M q ((g_TR_stepClock f w).1) ((g_TR_stepClock f w).2))) (fl_E D cls ad (xc ad cA) 88) (fl_A ad 88)) 0 0 (fl_A ad 88) := by
  refine Met.ofW (cc := b_TR_stepClock) (maxL := 1) (ret := none) (by decide) rfl ?_
  intro p e s m args below meth c s₁ B hml hv
  obtain ⟨rfl, hP, hK, hSt, hN⟩ := hv
  have hx := B.exec
  have hb := B.bytes
  have hr := B.returns
  have hts := atoms_spec (ws := w_TR_stepClock) B.pre
  have hown : s.vm.findClass "FarLink$Transaction" = some m.cls := findClass_of_methodNamed B.named
  have hlocks := B.notSynchronized
  have hS : va_S (fl_A ad 88) s.heap s.heap [] := va_S.rf
  have hl := lv_entry ([.ref (ad q)]) (n := 1) (Nat.le_of_ble_eq_true rfl)
  rw [lg_entry_eq]
  generalize (lg_sl ([.ref (ad q)]) ++ List.replicate (1 - (lg_sl ([.ref (ad q)])).length) Slot.unset).toArray = ls at hl ⊢
  have hl : lv_has ls 1 [(0, .ref (ad q))] := hl
  have hG := g_TR_stepClock.eq_1 f w
  refine lv_aload_n hx hb d_TR_stepClock_0 rfl (lv_at hl 0 rfl) ?_
  refine lv_dup hx hb d_TR_stepClock_1 rfl ?_
  refine gt_TR (k := 8) (v := .int (f 8)) hx hb hts hown hK hP hq (hts _ (List.mem_cons_of_mem _ tw_134)) (by decide) rfl rfl d_TR_stepClock_2 ?_
  refine lv_iconst (v := 1) hx hb d_TR_stepClock_5 (by decide) ?_
  refine lv_isub hx hb d_TR_stepClock_6 ?_
  refine pt_TR (k := 8) hx hb hts hown hK hi hP hS hq (hts _ (List.mem_cons_of_mem _ tw_134)) (by decide) rfl rfl rfl rfl (Nat.le_of_ble_eq_true rfl) rfl d_TR_stepClock_7 (fun H locs hP hS => ?_)
  refine lv_aload_n hx hb d_TR_stepClock_10 rfl (lv_at hl 0 rfl) ?_
  refine gt_TR (k := 8) (v := .int ((f 8) - 1)) hx hb hts hown hK hP hq (hts _ (List.mem_cons_of_mem _ tw_134)) (by decide) rfl rfl d_TR_stepClock_11 ?_
  refine lv_if_le (tgt := 18) hx hb d_TR_stepClock_14 (by decide) (fun h_1 => ?_) (fun h_1 => ?_)
  ·
    have hG := hG.trans (if_pos h_1)
    refine lv_aload_n hx hb d_TR_stepClock_18 rfl (lv_at hl 0 rfl) ?_
    refine gt_TR (k := 7) (v := .int (f 7)) hx hb hts hown hK hP hq (hts _ (List.mem_cons_of_mem _ tw_133)) (by decide) rfl rfl d_TR_stepClock_19 ?_
    refine lv_iconst (v := 4) hx hb d_TR_stepClock_22 (by decide) ?_
    refine lv_icmp_ne (tgt := 34) hx hb d_TR_stepClock_23 (by decide) (fun h_2 => ?_) (fun h_2 => ?_)
    ·
      have hG := hG.trans (if_neg h_2)
      refine lv_aload_n hx hb d_TR_stepClock_34 rfl (lv_at hl 0 rfl) ?_
      refine lv_dup hx hb d_TR_stepClock_35 rfl ?_
      refine gt_TR (k := 7) (v := .int (f 7)) hx hb hts hown hK hP hq (hts _ (List.mem_cons_of_mem _ tw_133)) (by decide) rfl rfl d_TR_stepClock_36 ?_
      refine lv_iconst (v := 1) hx hb d_TR_stepClock_39 (by decide) ?_
      refine lv_iadd hx hb d_TR_stepClock_40 ?_
      refine pt_TR (k := 7) hx hb hts hown hK hi hP hS hq (hts _ (List.mem_cons_of_mem _ tw_133)) (by decide) rfl rfl rfl rfl (Nat.le_of_ble_eq_true rfl) rfl d_TR_stepClock_41 (fun H locs hP hS => ?_)
      refine lv_aload_n hx hb d_TR_stepClock_44 rfl (lv_at hl 0 rfl) ?_
      refine lv_dup hx hb d_TR_stepClock_45 rfl ?_
      refine gt_TR (k := 6) (v := .int (f 6)) hx hb hts hown hK hP hq (hts _ (List.mem_cons_of_mem _ tw_132)) (by decide) rfl rfl d_TR_stepClock_46 ?_
      refine lv_ldc (v := 131072) hx hb hown (hts _ (List.mem_cons_of_mem _ tw_340)) d_TR_stepClock_49 ?_
      refine lv_ior hx hb d_TR_stepClock_51 ?_
      refine pt_TR (k := 6) hx hb hts hown hK hi hP hS hq (hts _ (List.mem_cons_of_mem _ tw_132)) (by decide) rfl rfl rfl rfl (Nat.le_of_ble_eq_true rfl) rfl d_TR_stepClock_52 (fun H locs hP hS => ?_)
      exact fl_vret hx hb hr hlocks hP hS (by rw [hG]) d_TR_stepClock_55
    ·
      have hG := hG.trans (if_pos h_2)
      refine lv_aload_n hx hb d_TR_stepClock_26 rfl (lv_at hl 0 rfl) ?_
      refine lv_iconst (v := 3) hx hb d_TR_stepClock_27 (by decide) ?_
      refine fl_callv (va_runV (As := [.int 3]) (rest := []) ⟨hx, hb, hml, hown, hts⟩ (c_TR_endWith l hi hq M (upd f 8 ((f 8) - 1)) w 3) (kv_TR_endWith hts (hts _ (List.mem_cons_of_mem _ tw_614)) ⟨Nat.le_of_ble_eq_true rfl, Nat.le_of_ble_eq_true rfl⟩) (fl_preV hK hSt hN hS hP (lt_TR hq) (kc_TR hq) rfl) rfl rfl hl.1 rfl (lv_room (Nat.le_of_ble_eq_true rfl)) d_TR_stepClock_28 ⟨Nat.zero_le _, Nat.zero_le _⟩) hS (fun H locs hP hS => ?_)
      refine lv_goto (tgt := 55) hx hb d_TR_stepClock_31 (by decide) ?_
      exact fl_vret hx hb hr hlocks hP hS (by rw [hG]) d_TR_stepClock_55
  ·
    have hG := hG.trans (if_neg h_1)
    exact fl_vret hx hb hr hlocks hP hS (by rw [hG]) d_TR_stepClock_17
theorem hd_TR_stepClock : y_TR_stepClock.cls ≠ "java/lang/invoke/MethodHandle" ∧ y_TR_stepClock.cls ≠ "java/lang/invoke/VarHandle" ∧ (parseMethodDescriptor y_TR_stepClock.desc).map (fun d => d.parameters.length) = some 0 := by decide +kernel
theorem kv_TR_stepClock {R : Room} {s : State} {args : Array Value} {c0 : Cond} {own : String} {index : Nat} (hts : ∀ w ∈ c0 :: gw, w.before args s = true) (hl : (Cond.methodLink own index y_TR_stepClock).before args s = true) (hR : 1 + 1 ≤ R.frames ∧ 8 + (1 + 11) + 21 ≤ R.locals) : CallW R s args own "FarLink$Transaction" index y_TR_stepClock b_TR_stepClock 1 none w_TR_stepClock ({ frames := 1, cells := 0, slots := 0, locals := 21 } : Room) 0 0 0 := ⟨callB_of 0 hts (gw_in tw_639) rfl rfl rfl (hts _ (List.mem_cons_of_mem _ tw_6)) hl hd_TR_stepClock hR, hts _ (List.mem_cons_of_mem _ tw_638), hts _ (List.mem_cons_of_mem _ ps_TR_stepClock)⟩
def g_TR_stepClocks (f : Nat → Int32) (w : Nat → Int32) : (Nat → Int32) × (Nat → Int32) :=
  if (f 14) = 0 then (if (f 13) = 0 then (if (f 11) = 0 then (if ((f 6) &&& 131072) = 0 then ((((g_TR_stepClock f w).1), ((g_TR_stepClock f w).2))) else ((f, w))) else ((((g_TR_stepIdle f w).1), ((g_TR_stepIdle f w).2)))) else ((f, w))) else ((f, w))
set_option maxHeartbeats 4000000 in
set_option maxRecDepth 100000 in
theorem c_TR_stepClocks (l : Launch) {D : va_G} {ad : Nat → Nat} {cA : Nat → ClassId} {st : Nat → Nat} (hi : fl_inj ad 88) {q : Nat} (hq : is_TR q) (M : fl_M) (f : Nat → Int32) (w : Nat → Int32) : Met l y_TR_stepClocks w_TR_stepClocks ({ frames := 2, cells := 0, slots := 0, locals := 41 } : Room) (va_Pc [.ref (ad q)] (fl_B D cls (xt cA) (xSL st) xFN xMN ad (xc ad cA) 88 (pTR M q f w))) (va_Qv (fun M' => M' = (pTR M q ((g_TR_stepClocks f w).1) ((g_TR_stepClocks f w).2))) (fl_E D cls ad (xc ad cA) 88) (fl_A ad 88)) 0 0 (fl_A ad 88) := by
  refine Met.ofW (cc := b_TR_stepClocks) (maxL := 1) (ret := none) (by decide) rfl ?_
  intro p e s m args below meth c s₁ B hml hv
  obtain ⟨rfl, hP, hK, hSt, hN⟩ := hv
  have hx := B.exec
  have hb := B.bytes
  have hr := B.returns
  have hts := atoms_spec (ws := w_TR_stepClocks) B.pre
  have hown : s.vm.findClass "FarLink$Transaction" = some m.cls := findClass_of_methodNamed B.named
  have hlocks := B.notSynchronized
  have hS : va_S (fl_A ad 88) s.heap s.heap [] := va_S.rf
  have hl := lv_entry ([.ref (ad q)]) (n := 1) (Nat.le_of_ble_eq_true rfl)
  rw [lg_entry_eq]
  generalize (lg_sl ([.ref (ad q)]) ++ List.replicate (1 - (lg_sl ([.ref (ad q)])).length) Slot.unset).toArray = ls at hl ⊢
  have hl : lv_has ls 1 [(0, .ref (ad q))] := hl
  have hG := g_TR_stepClocks.eq_1 f w
  refine lv_aload_n hx hb d_TR_stepClocks_0 rfl (lv_at hl 0 rfl) ?_
  refine gt_TR (k := 14) (v := .int (f 14)) hx hb hts hown hK hP hq (hts _ (List.mem_cons_of_mem _ tw_140)) (by decide) rfl rfl d_TR_stepClocks_1 ?_
  refine lv_if_ne (tgt := 14) hx hb d_TR_stepClocks_4 (by decide) (fun h_1 => ?_) (fun h_1 => ?_)
  ·
    have hG := hG.trans (if_neg h_1)
    exact fl_vret hx hb hr hlocks hP hS (by rw [hG]) d_TR_stepClocks_14
  ·
    have hG := hG.trans (if_pos h_1)
    refine lv_aload_n hx hb d_TR_stepClocks_7 rfl (lv_at hl 0 rfl) ?_
    refine gt_TR (k := 13) (v := .int (f 13)) hx hb hts hown hK hP hq (hts _ (List.mem_cons_of_mem _ tw_139)) (by decide) rfl rfl d_TR_stepClocks_8 ?_
    refine lv_if_eq (tgt := 15) hx hb d_TR_stepClocks_11 (by decide) (fun h_2 => ?_) (fun h_2 => ?_)
    ·
      have hG := hG.trans (if_pos h_2)
      refine lv_aload_n hx hb d_TR_stepClocks_15 rfl (lv_at hl 0 rfl) ?_
      refine gt_TR (k := 11) (v := .int (f 11)) hx hb hts hown hK hP hq (hts _ (List.mem_cons_of_mem _ tw_137)) (by decide) rfl rfl d_TR_stepClocks_16 ?_
      refine lv_if_eq (tgt := 29) hx hb d_TR_stepClocks_19 (by decide) (fun h_3 => ?_) (fun h_3 => ?_)
      ·
        have hG := hG.trans (if_pos h_3)
        refine lv_aload_n hx hb d_TR_stepClocks_29 rfl (lv_at hl 0 rfl) ?_
        refine gt_TR (k := 6) (v := .int (f 6)) hx hb hts hown hK hP hq (hts _ (List.mem_cons_of_mem _ tw_132)) (by decide) rfl rfl d_TR_stepClocks_30 ?_
        refine lv_ldc (v := 131072) hx hb hown (hts _ (List.mem_cons_of_mem _ tw_340)) d_TR_stepClocks_33 ?_
        refine lv_iand hx hb d_TR_stepClocks_35 ?_
        refine lv_if_ne (tgt := 43) hx hb d_TR_stepClocks_36 (by decide) (fun h_4 => ?_) (fun h_4 => ?_)
        ·
          have hG := hG.trans (if_neg h_4)
          exact fl_vret hx hb hr hlocks hP hS (by rw [hG]) d_TR_stepClocks_43
        ·
          have hG := hG.trans (if_pos h_4)
          refine lv_aload_n hx hb d_TR_stepClocks_39 rfl (lv_at hl 0 rfl) ?_
          refine fl_callv (va_runV (As := []) (rest := []) ⟨hx, hb, hml, hown, hts⟩ (c_TR_stepClock l hi hq M f w) (kv_TR_stepClock hts (hts _ (List.mem_cons_of_mem _ tw_636)) ⟨Nat.le_of_ble_eq_true rfl, Nat.le_of_ble_eq_true rfl⟩) (fl_preV hK hSt hN hS hP (lt_TR hq) (kc_TR hq) rfl) rfl rfl hl.1 rfl (lv_room (Nat.le_of_ble_eq_true rfl)) d_TR_stepClocks_40 ⟨Nat.zero_le _, Nat.zero_le _⟩) hS (fun H locs hP hS => ?_)
          exact fl_vret hx hb hr hlocks hP hS (by rw [hG]) d_TR_stepClocks_43
      ·
        have hG := hG.trans (if_neg h_3)
        refine lv_aload_n hx hb d_TR_stepClocks_22 rfl (lv_at hl 0 rfl) ?_
        refine fl_callv (va_runV (As := []) (rest := []) ⟨hx, hb, hml, hown, hts⟩ (c_TR_stepIdle l hi hq M f w) (kv_TR_stepIdle hts (hts _ (List.mem_cons_of_mem _ tw_632)) ⟨Nat.le_of_ble_eq_true rfl, Nat.le_of_ble_eq_true rfl⟩) (fl_preV hK hSt hN hS hP (lt_TR hq) (kc_TR hq) rfl) rfl rfl hl.1 rfl (lv_room (Nat.le_of_ble_eq_true rfl)) d_TR_stepClocks_23 ⟨Nat.zero_le _, Nat.zero_le _⟩) hS (fun H locs hP hS => ?_)
        refine lv_goto (tgt := 43) hx hb d_TR_stepClocks_26 (by decide) ?_
        exact fl_vret hx hb hr hlocks hP hS (by rw [hG]) d_TR_stepClocks_43
    ·
      have hG := hG.trans (if_neg h_2)
      exact fl_vret hx hb hr hlocks hP hS (by rw [hG]) d_TR_stepClocks_14
theorem hd_TR_stepClocks : y_TR_stepClocks.cls ≠ "java/lang/invoke/MethodHandle" ∧ y_TR_stepClocks.cls ≠ "java/lang/invoke/VarHandle" ∧ (parseMethodDescriptor y_TR_stepClocks.desc).map (fun d => d.parameters.length) = some 0 := by decide +kernel
theorem kv_TR_stepClocks {R : Room} {s : State} {args : Array Value} {c0 : Cond} {own : String} {index : Nat} (hts : ∀ w ∈ c0 :: gw, w.before args s = true) (hl : (Cond.methodLink own index y_TR_stepClocks).before args s = true) (hR : 2 + 1 ≤ R.frames ∧ 8 + (1 + 11) + 41 ≤ R.locals) : CallW R s args own "FarLink$Transaction" index y_TR_stepClocks b_TR_stepClocks 1 none w_TR_stepClocks ({ frames := 2, cells := 0, slots := 0, locals := 41 } : Room) 0 0 0 := ⟨callB_of 0 hts (gw_in tw_631) rfl rfl rfl (hts _ (List.mem_cons_of_mem _ tw_6)) hl hd_TR_stepClocks hR, hts _ (List.mem_cons_of_mem _ tw_629), hts _ (List.mem_cons_of_mem _ tw_630)⟩
def g_TR_hasToSend (f : Nat → Int32) (w : Nat → Int32) : Int32 :=
  if (f 6) = 0 then (0) else (if (f 13) = 0 then (1) else (0))
set_option maxHeartbeats 4000000 in
set_option maxRecDepth 100000 in
theorem c_TR_hasToSend (l : Launch) {D : va_G} {ad : Nat → Nat} {cA : Nat → ClassId} {st : Nat → Nat} (hi : fl_inj ad 88) {q : Nat} (hq : is_TR q) (M : fl_M) (f : Nat → Int32) (w : Nat → Int32) : Met l y_TR_hasToSend w_TR_hasToSend ({ frames := 0, cells := 0, slots := 0, locals := 0 } : Room) (va_Pc [.ref (ad q)] (fl_B D cls (xt cA) (xSL st) xFN xMN ad (xc ad cA) 88 (pTR M q f w))) (va_Qi (fun r M' => r = (g_TR_hasToSend f w) ∧ M' = (pTR M q f w)) (fl_E D cls ad (xc ad cA) 88) (fl_A ad 88)) 0 0 (fl_A ad 88) := by
  refine Met.ofW (cc := b_TR_hasToSend) (maxL := 1) (ret := (some .boolean)) (by decide) rfl ?_
  intro p e s m args below meth c s₁ B hml hv
  obtain ⟨rfl, hP, hK, hSt, hN⟩ := hv
  have hx := B.exec
  have hb := B.bytes
  have hr := B.returns
  have hts := atoms_spec (ws := w_TR_hasToSend) B.pre
  have hown : s.vm.findClass "FarLink$Transaction" = some m.cls := findClass_of_methodNamed B.named
  have hlocks := B.notSynchronized
  have hS : va_S (fl_A ad 88) s.heap s.heap [] := va_S.rf
  have hl := lv_entry ([.ref (ad q)]) (n := 1) (Nat.le_of_ble_eq_true rfl)
  rw [lg_entry_eq]
  generalize (lg_sl ([.ref (ad q)]) ++ List.replicate (1 - (lg_sl ([.ref (ad q)])).length) Slot.unset).toArray = ls at hl ⊢
  have hl : lv_has ls 1 [(0, .ref (ad q))] := hl
  have hG := g_TR_hasToSend.eq_1 f w
  refine lv_aload_n hx hb d_TR_hasToSend_0 rfl (lv_at hl 0 rfl) ?_
  refine gt_TR (k := 6) (v := .int (f 6)) hx hb hts hown hK hP hq (hts _ (List.mem_cons_of_mem _ tw_132)) (by decide) rfl rfl d_TR_hasToSend_1 ?_
  refine lv_if_eq (tgt := 18) hx hb d_TR_hasToSend_4 (by decide) (fun h_1 => ?_) (fun h_1 => ?_)
  ·
    have hG := hG.trans (if_pos h_1)
    refine lv_iconst (v := 0) hx hb d_TR_hasToSend_18 (by decide) ?_
    exact fl_zret hx hb hr hlocks hP hS (rfl) hG.symm rfl d_TR_hasToSend_19
  ·
    have hG := hG.trans (if_neg h_1)
    refine lv_aload_n hx hb d_TR_hasToSend_7 rfl (lv_at hl 0 rfl) ?_
    refine gt_TR (k := 13) (v := .int (f 13)) hx hb hts hown hK hP hq (hts _ (List.mem_cons_of_mem _ tw_139)) (by decide) rfl rfl d_TR_hasToSend_8 ?_
    refine lv_if_ne (tgt := 18) hx hb d_TR_hasToSend_11 (by decide) (fun h_2 => ?_) (fun h_2 => ?_)
    ·
      have hG := hG.trans (if_neg h_2)
      refine lv_iconst (v := 0) hx hb d_TR_hasToSend_18 (by decide) ?_
      exact fl_zret hx hb hr hlocks hP hS (rfl) hG.symm rfl d_TR_hasToSend_19
    ·
      have hG := hG.trans (if_pos h_2)
      refine lv_iconst (v := 1) hx hb d_TR_hasToSend_14 (by decide) ?_
      refine lv_goto (tgt := 19) hx hb d_TR_hasToSend_15 (by decide) ?_
      exact fl_zret hx hb hr hlocks hP hS (rfl) hG.symm rfl d_TR_hasToSend_19
theorem z_TR_hasToSend (f : Nat → Int32) (w : Nat → Int32) : g_TR_hasToSend f w &&& 1 = g_TR_hasToSend f w := by
  unfold g_TR_hasToSend
  repeat (first | split | (show (0 : Int32) &&& 1 = 0; rfl) | (show (1 : Int32) &&& 1 = 1; rfl) | rfl)
theorem hd_TR_hasToSend : y_TR_hasToSend.cls ≠ "java/lang/invoke/MethodHandle" ∧ y_TR_hasToSend.cls ≠ "java/lang/invoke/VarHandle" ∧ (parseMethodDescriptor y_TR_hasToSend.desc).map (fun d => d.parameters.length) = some 0 := by decide +kernel
theorem kv_TR_hasToSend {R : Room} {s : State} {args : Array Value} {c0 : Cond} {own : String} {index : Nat} (hts : ∀ w ∈ c0 :: gw, w.before args s = true) (hl : (Cond.methodLink own index y_TR_hasToSend).before args s = true) (hR : 0 + 1 ≤ R.frames ∧ 8 + (1 + 11) + 0 ≤ R.locals) : CallW R s args own "FarLink$Transaction" index y_TR_hasToSend b_TR_hasToSend 1 (some .boolean) w_TR_hasToSend ({ frames := 0, cells := 0, slots := 0, locals := 0 } : Room) 0 0 0 := ⟨callB_of 0 hts (gw_in tw_662) rfl rfl rfl (hts _ (List.mem_cons_of_mem _ tw_6)) hl hd_TR_hasToSend hR, hts _ (List.mem_cons_of_mem _ tw_660), hts _ (List.mem_cons_of_mem _ tw_661)⟩
def g_TR_pdu (f : Nat → Int32) (w : Nat → Int32) (x1 : Int32) (x2 : Int32) (x3 : Int32) : Int64 :=
  (j_lshl (((j_lshl x1.toInt64 12) ||| (j_lshl ((f 0).toInt64) 8)) ||| x2.toInt64) 32) ||| (x3.toInt64 &&& 4294967295)
set_option maxHeartbeats 4000000 in
set_option maxRecDepth 100000 in
theorem c_TR_pdu (l : Launch) {D : va_G} {ad : Nat → Nat} {cA : Nat → ClassId} {st : Nat → Nat} (hi : fl_inj ad 88) {q : Nat} (hq : is_TR q) (M : fl_M) (f : Nat → Int32) (w : Nat → Int32) (x1 : Int32) (x2 : Int32) (x3 : Int32) : Met l y_TR_pdu w_TR_pdu ({ frames := 0, cells := 0, slots := 0, locals := 0 } : Room) (va_Pc [.ref (ad q), .int x1, .int x2, .int x3] (fl_B D cls (xt cA) (xSL st) xFN xMN ad (xc ad cA) 88 (pTR M q f w))) (va_Ql (fun r M' => r = (g_TR_pdu f w x1 x2 x3) ∧ M' = (pTR M q f w)) (fl_E D cls ad (xc ad cA) 88) (fl_A ad 88)) 0 0 (fl_A ad 88) := by
  refine Met.ofW (cc := b_TR_pdu) (maxL := 6) (ret := (some .long)) (by decide) rfl ?_
  intro p e s m args below meth c s₁ B hml hv
  obtain ⟨rfl, hP, hK, hSt, hN⟩ := hv
  have hx := B.exec
  have hb := B.bytes
  have hr := B.returns
  have hts := atoms_spec (ws := w_TR_pdu) B.pre
  have hown : s.vm.findClass "FarLink$Transaction" = some m.cls := findClass_of_methodNamed B.named
  have hlocks := B.notSynchronized
  have hS : va_S (fl_A ad 88) s.heap s.heap [] := va_S.rf
  have hl := lv_entry ([.ref (ad q), .int x1, .int x2, .int x3]) (n := 6) (Nat.le_of_ble_eq_true rfl)
  rw [lg_entry_eq]
  generalize (lg_sl ([.ref (ad q), .int x1, .int x2, .int x3]) ++ List.replicate (6 - (lg_sl ([.ref (ad q), .int x1, .int x2, .int x3])).length) Slot.unset).toArray = ls at hl ⊢
  have hl : lv_has ls 6 [(0, .ref (ad q)), (1, .int x1), (2, .int x2), (3, .int x3)] := hl
  have hG := g_TR_pdu.eq_1 f w x1 x2 x3
  refine lv_iload_n hx hb d_TR_pdu_0 rfl (lv_at hl 1 rfl) ?_
  refine lv_i2l (v := x1.toInt64) hx hb d_TR_pdu_1 rfl ?_
  refine lv_bipush (v := 12) hx hb d_TR_pdu_2 (by decide) ?_
  refine lv_lshl (v := j_lshl x1.toInt64 12) hx hb d_TR_pdu_4 rfl ?_
  refine lv_aload_n hx hb d_TR_pdu_5 rfl (lv_at hl 0 rfl) ?_
  refine gt_TR (k := 0) (v := .int (f 0)) hx hb hts hown hK hP hq (hts _ (List.mem_cons_of_mem _ tw_125)) (by decide) rfl rfl d_TR_pdu_6 ?_
  refine lv_i2l (v := (f 0).toInt64) hx hb d_TR_pdu_9 rfl ?_
  refine lv_bipush (v := 8) hx hb d_TR_pdu_10 (by decide) ?_
  refine lv_lshl (v := j_lshl ((f 0).toInt64) 8) hx hb d_TR_pdu_12 rfl ?_
  refine lv_lor hx hb d_TR_pdu_13 ?_
  refine lv_iload_n hx hb d_TR_pdu_14 rfl (lv_at hl 2 rfl) ?_
  refine lv_i2l (v := x2.toInt64) hx hb d_TR_pdu_15 rfl ?_
  refine lv_lor hx hb d_TR_pdu_16 ?_
  refine lv_lstore (lv' := [(4, .long (((j_lshl x1.toInt64 12) ||| (j_lshl ((f 0).toInt64) 8)) ||| x2.toInt64)), (0, .ref (ad q)), (1, .int x1), (2, .int x2), (3, .int x3)]) hx hb d_TR_pdu_17 hl (by decide) rfl (fun ls hl => ?_)
  refine lv_lload hx hb d_TR_pdu_19 (lv_at hl 0 rfl) ?_
  refine lv_bipush (v := 32) hx hb d_TR_pdu_21 (by decide) ?_
  refine lv_lshl (v := j_lshl (((j_lshl x1.toInt64 12) ||| (j_lshl ((f 0).toInt64) 8)) ||| x2.toInt64) 32) hx hb d_TR_pdu_23 rfl ?_
  refine lv_iload_n hx hb d_TR_pdu_24 rfl (lv_at hl 4 rfl) ?_
  refine lv_i2l (v := x3.toInt64) hx hb d_TR_pdu_25 rfl ?_
  refine lv_ldc2 (v := 4294967295) hx hb hown (hts _ (List.mem_cons_of_mem _ tw_673)) d_TR_pdu_26 ?_
  refine lv_land hx hb d_TR_pdu_29 ?_
  refine lv_lor hx hb d_TR_pdu_30 ?_
  exact fl_lret hx hb hr hlocks hP hS hG.symm rfl d_TR_pdu_31
theorem hd_TR_pdu : y_TR_pdu.cls ≠ "java/lang/invoke/MethodHandle" ∧ y_TR_pdu.cls ≠ "java/lang/invoke/VarHandle" ∧ (parseMethodDescriptor y_TR_pdu.desc).map (fun d => d.parameters.length) = some 3 := by decide +kernel
theorem kv_TR_pdu {R : Room} {s : State} {args : Array Value} {c0 : Cond} {own : String} {index : Nat} (hts : ∀ w ∈ c0 :: gw, w.before args s = true) (hl : (Cond.methodLink own index y_TR_pdu).before args s = true) (hR : 0 + 1 ≤ R.frames ∧ 8 + (6 + 11) + 0 ≤ R.locals) : CallW R s args own "FarLink$Transaction" index y_TR_pdu b_TR_pdu 6 (some .long) w_TR_pdu ({ frames := 0, cells := 0, slots := 0, locals := 0 } : Room) 0 0 3 := ⟨callB_of 3 hts (gw_in tw_672) rfl rfl rfl (hts _ (List.mem_cons_of_mem _ tw_6)) hl hd_TR_pdu hR, hts _ (List.mem_cons_of_mem _ tw_671), hts _ (List.mem_cons_of_mem _ ps_TR_pdu)⟩
def g_TR_result (f : Nat → Int32) (w : Nat → Int32) : Int32 :=
  if (f 14) = 0 then (0) else (8 + (f 10))
set_option maxHeartbeats 4000000 in
set_option maxRecDepth 100000 in
theorem c_TR_result (l : Launch) {D : va_G} {ad : Nat → Nat} {cA : Nat → ClassId} {st : Nat → Nat} (hi : fl_inj ad 88) {q : Nat} (hq : is_TR q) (M : fl_M) (f : Nat → Int32) (w : Nat → Int32) : Met l y_TR_result w_TR_result ({ frames := 0, cells := 0, slots := 0, locals := 0 } : Room) (va_Pc [.ref (ad q)] (fl_B D cls (xt cA) (xSL st) xFN xMN ad (xc ad cA) 88 (pTR M q f w))) (va_Qi (fun r M' => r = (g_TR_result f w) ∧ M' = (pTR M q f w)) (fl_E D cls ad (xc ad cA) 88) (fl_A ad 88)) 0 0 (fl_A ad 88) := by
  refine Met.ofW (cc := b_TR_result) (maxL := 1) (ret := (some .int)) (by decide) rfl ?_
  intro p e s m args below meth c s₁ B hml hv
  obtain ⟨rfl, hP, hK, hSt, hN⟩ := hv
  have hx := B.exec
  have hb := B.bytes
  have hr := B.returns
  have hts := atoms_spec (ws := w_TR_result) B.pre
  have hown : s.vm.findClass "FarLink$Transaction" = some m.cls := findClass_of_methodNamed B.named
  have hlocks := B.notSynchronized
  have hS : va_S (fl_A ad 88) s.heap s.heap [] := va_S.rf
  have hl := lv_entry ([.ref (ad q)]) (n := 1) (Nat.le_of_ble_eq_true rfl)
  rw [lg_entry_eq]
  generalize (lg_sl ([.ref (ad q)]) ++ List.replicate (1 - (lg_sl ([.ref (ad q)])).length) Slot.unset).toArray = ls at hl ⊢
  have hl : lv_has ls 1 [(0, .ref (ad q))] := hl
  have hG := g_TR_result.eq_1 f w
  refine lv_aload_n hx hb d_TR_result_0 rfl (lv_at hl 0 rfl) ?_
  refine gt_TR (k := 14) (v := .int (f 14)) hx hb hts hown hK hP hq (hts _ (List.mem_cons_of_mem _ tw_140)) (by decide) rfl rfl d_TR_result_1 ?_
  refine lv_if_eq (tgt := 17) hx hb d_TR_result_4 (by decide) (fun h_1 => ?_) (fun h_1 => ?_)
  ·
    have hG := hG.trans (if_pos h_1)
    refine lv_iconst (v := 0) hx hb d_TR_result_17 (by decide) ?_
    exact fl_iret hx hb hr hlocks hP hS hG.symm rfl d_TR_result_18
  ·
    have hG := hG.trans (if_neg h_1)
    refine lv_bipush (v := 8) hx hb d_TR_result_7 (by decide) ?_
    refine lv_aload_n hx hb d_TR_result_9 rfl (lv_at hl 0 rfl) ?_
    refine gt_TR (k := 10) (v := .int (f 10)) hx hb hts hown hK hP hq (hts _ (List.mem_cons_of_mem _ tw_136)) (by decide) rfl rfl d_TR_result_10 ?_
    refine lv_iadd hx hb d_TR_result_13 ?_
    refine lv_goto (tgt := 18) hx hb d_TR_result_14 (by decide) ?_
    exact fl_iret hx hb hr hlocks hP hS hG.symm rfl d_TR_result_18
theorem hd_TR_result : y_TR_result.cls ≠ "java/lang/invoke/MethodHandle" ∧ y_TR_result.cls ≠ "java/lang/invoke/VarHandle" ∧ (parseMethodDescriptor y_TR_result.desc).map (fun d => d.parameters.length) = some 0 := by decide +kernel
theorem kv_TR_result {R : Room} {s : State} {args : Array Value} {c0 : Cond} {own : String} {index : Nat} (hts : ∀ w ∈ c0 :: gw, w.before args s = true) (hl : (Cond.methodLink own index y_TR_result).before args s = true) (hR : 0 + 1 ≤ R.frames ∧ 8 + (1 + 11) + 0 ≤ R.locals) : CallW R s args own "FarLink$Transaction" index y_TR_result b_TR_result 1 (some .int) w_TR_result ({ frames := 0, cells := 0, slots := 0, locals := 0 } : Room) 0 0 0 := ⟨callB_of 0 hts (gw_in tw_701) rfl rfl rfl (hts _ (List.mem_cons_of_mem _ tw_6)) hl hd_TR_result hR, hts _ (List.mem_cons_of_mem _ tw_699), hts _ (List.mem_cons_of_mem _ tw_700)⟩
def g_TR_hearUnderWay (f : Nat → Int32) (w : Nat → Int32) (x1 : Int32) (x2 : Int32) : (Nat → Int32) × (Nat → Int32) :=
  if x1 = 1 then (((upd f 11 1), w)) else (if x1 = 3 then ((((g_TR_endWith f w x2).1), ((g_TR_endWith f w x2).2))) else (if (f 12) = 0 then (((upd f 6 ((f 6) ||| (x2 &&& (65536 ||| (g_FL_wordsBelow (f 3)))))), w)) else ((f, w))))
set_option maxHeartbeats 4000000 in
set_option maxRecDepth 100000 in
theorem c_TR_hearUnderWay (l : Launch) {D : va_G} {ad : Nat → Nat} {cA : Nat → ClassId} {st : Nat → Nat} (hi : fl_inj ad 88) {q : Nat} (hq : is_TR q) (M : fl_M) (f : Nat → Int32) (w : Nat → Int32) (x1 : Int32) (x2 : Int32) : Met l y_TR_hearUnderWay w_TR_hearUnderWay ({ frames := 1, cells := 0, slots := 0, locals := 21 } : Room) (va_Pc [.ref (ad q), .int x1, .int x2] (fl_B D cls (xt cA) (xSL st) xFN xMN ad (xc ad cA) 88 (pTR M q f w))) (va_Qv (fun M' => M' = (pTR M q ((g_TR_hearUnderWay f w x1 x2).1) ((g_TR_hearUnderWay f w x1 x2).2))) (fl_E D cls ad (xc ad cA) 88) (fl_A ad 88)) 0 0 (fl_A ad 88) := by
  refine Met.ofW (cc := b_TR_hearUnderWay) (maxL := 3) (ret := none) (by decide) rfl ?_
  intro p e s m args below meth c s₁ B hml hv
  obtain ⟨rfl, hP, hK, hSt, hN⟩ := hv
  have hx := B.exec
  have hb := B.bytes
  have hr := B.returns
  have hts := atoms_spec (ws := w_TR_hearUnderWay) B.pre
  have hown : s.vm.findClass "FarLink$Transaction" = some m.cls := findClass_of_methodNamed B.named
  have hlocks := B.notSynchronized
  have hS : va_S (fl_A ad 88) s.heap s.heap [] := va_S.rf
  have hl := lv_entry ([.ref (ad q), .int x1, .int x2]) (n := 3) (Nat.le_of_ble_eq_true rfl)
  rw [lg_entry_eq]
  generalize (lg_sl ([.ref (ad q), .int x1, .int x2]) ++ List.replicate (3 - (lg_sl ([.ref (ad q), .int x1, .int x2])).length) Slot.unset).toArray = ls at hl ⊢
  have hl : lv_has ls 3 [(0, .ref (ad q)), (1, .int x1), (2, .int x2)] := hl
  have hG := g_TR_hearUnderWay.eq_1 f w x1 x2
  refine lv_iload_n hx hb d_TR_hearUnderWay_0 rfl (lv_at hl 1 rfl) ?_
  refine lv_iconst (v := 1) hx hb d_TR_hearUnderWay_1 (by decide) ?_
  refine lv_icmp_ne (tgt := 13) hx hb d_TR_hearUnderWay_2 (by decide) (fun h_1 => ?_) (fun h_1 => ?_)
  ·
    have hG := hG.trans (if_neg h_1)
    refine lv_iload_n hx hb d_TR_hearUnderWay_13 rfl (lv_at hl 1 rfl) ?_
    refine lv_iconst (v := 3) hx hb d_TR_hearUnderWay_14 (by decide) ?_
    refine lv_icmp_ne (tgt := 26) hx hb d_TR_hearUnderWay_15 (by decide) (fun h_2 => ?_) (fun h_2 => ?_)
    ·
      have hG := hG.trans (if_neg h_2)
      refine lv_aload_n hx hb d_TR_hearUnderWay_26 rfl (lv_at hl 0 rfl) ?_
      refine gt_TR (k := 12) (v := .int (f 12)) hx hb hts hown hK hP hq (hts _ (List.mem_cons_of_mem _ tw_138)) (by decide) rfl rfl d_TR_hearUnderWay_27 ?_
      refine lv_if_ne (tgt := 54) hx hb d_TR_hearUnderWay_30 (by decide) (fun h_3 => ?_) (fun h_3 => ?_)
      ·
        have hG := hG.trans (if_neg h_3)
        exact fl_vret hx hb hr hlocks hP hS (by rw [hG]) d_TR_hearUnderWay_54
      ·
        have hG := hG.trans (if_pos h_3)
        refine lv_aload_n hx hb d_TR_hearUnderWay_33 rfl (lv_at hl 0 rfl) ?_
        refine lv_dup hx hb d_TR_hearUnderWay_34 rfl ?_
        refine gt_TR (k := 6) (v := .int (f 6)) hx hb hts hown hK hP hq (hts _ (List.mem_cons_of_mem _ tw_132)) (by decide) rfl rfl d_TR_hearUnderWay_35 ?_
        refine lv_iload_n hx hb d_TR_hearUnderWay_38 rfl (lv_at hl 2 rfl) ?_
        refine lv_ldc (v := 65536) hx hb hown (hts _ (List.mem_cons_of_mem _ tw_619)) d_TR_hearUnderWay_39 ?_
        refine lv_aload_n hx hb d_TR_hearUnderWay_41 rfl (lv_at hl 0 rfl) ?_
        refine gt_TR (k := 3) (v := .int (f 3)) hx hb hts hown hK hP hq (hts _ (List.mem_cons_of_mem _ tw_128)) (by decide) rfl rfl d_TR_hearUnderWay_42 ?_
        refine fl_calli (va_runSN (As := [.int (f 3)]) (rest := [.int 65536, .int x2, .int (f 6), .ref (ad q)]) ⟨hx, hb, hml, hown, hts⟩ (c_FL_wordsBelow l hi (pTR M q f w) (f 3)) (kn_FL_wordsBelow hts (hN.m 1 rfl) ⟨Nat.le_of_ble_eq_true rfl, Nat.le_of_ble_eq_true rfl⟩) (fl_preS hK hSt hN hS hP) rfl rfl hl.1 rfl (lv_room (Nat.le_of_ble_eq_true rfl)) d_TR_hearUnderWay_45 ⟨Nat.zero_le _, Nat.zero_le _⟩) hS (fun H locs hP hS => ?_)
        refine lv_ior hx hb d_TR_hearUnderWay_48 ?_
        refine lv_iand hx hb d_TR_hearUnderWay_49 ?_
        refine lv_ior hx hb d_TR_hearUnderWay_50 ?_
        refine pt_TR (k := 6) hx hb hts hown hK hi hP hS hq (hts _ (List.mem_cons_of_mem _ tw_132)) (by decide) rfl rfl rfl rfl (Nat.le_of_ble_eq_true rfl) rfl d_TR_hearUnderWay_51 (fun H locs hP hS => ?_)
        exact fl_vret hx hb hr hlocks hP hS (by rw [hG]) d_TR_hearUnderWay_54
    ·
      have hG := hG.trans (if_pos h_2)
      refine lv_aload_n hx hb d_TR_hearUnderWay_18 rfl (lv_at hl 0 rfl) ?_
      refine lv_iload_n hx hb d_TR_hearUnderWay_19 rfl (lv_at hl 2 rfl) ?_
      refine fl_callv (va_runV (As := [.int x2]) (rest := []) ⟨hx, hb, hml, hown, hts⟩ (c_TR_endWith l hi hq M f w x2) (kv_TR_endWith hts (hts _ (List.mem_cons_of_mem _ tw_614)) ⟨Nat.le_of_ble_eq_true rfl, Nat.le_of_ble_eq_true rfl⟩) (fl_preV hK hSt hN hS hP (lt_TR hq) (kc_TR hq) rfl) rfl rfl hl.1 rfl (lv_room (Nat.le_of_ble_eq_true rfl)) d_TR_hearUnderWay_20 ⟨Nat.zero_le _, Nat.zero_le _⟩) hS (fun H locs hP hS => ?_)
      refine lv_goto (tgt := 54) hx hb d_TR_hearUnderWay_23 (by decide) ?_
      exact fl_vret hx hb hr hlocks hP hS (by rw [hG]) d_TR_hearUnderWay_54
  ·
    have hG := hG.trans (if_pos h_1)
    refine lv_aload_n hx hb d_TR_hearUnderWay_5 rfl (lv_at hl 0 rfl) ?_
    refine lv_iconst (v := 1) hx hb d_TR_hearUnderWay_6 (by decide) ?_
    refine pt_TR (k := 11) hx hb hts hown hK hi hP hS hq (hts _ (List.mem_cons_of_mem _ tw_137)) (by decide) rfl rfl (rfl) (rfl) (Nat.le_of_ble_eq_true rfl) rfl d_TR_hearUnderWay_7 (fun H locs hP hS => ?_)
    refine lv_goto (tgt := 54) hx hb d_TR_hearUnderWay_10 (by decide) ?_
    exact fl_vret hx hb hr hlocks hP hS (by rw [hG]) d_TR_hearUnderWay_54
theorem hd_TR_hearUnderWay : y_TR_hearUnderWay.cls ≠ "java/lang/invoke/MethodHandle" ∧ y_TR_hearUnderWay.cls ≠ "java/lang/invoke/VarHandle" ∧ (parseMethodDescriptor y_TR_hearUnderWay.desc).map (fun d => d.parameters.length) = some 2 := by decide +kernel
theorem kv_TR_hearUnderWay {R : Room} {s : State} {args : Array Value} {c0 : Cond} {own : String} {index : Nat} (hts : ∀ w ∈ c0 :: gw, w.before args s = true) (hl : (Cond.methodLink own index y_TR_hearUnderWay).before args s = true) (hR : 1 + 1 ≤ R.frames ∧ 8 + (3 + 11) + 21 ≤ R.locals) : CallW R s args own "FarLink$Transaction" index y_TR_hearUnderWay b_TR_hearUnderWay 3 none w_TR_hearUnderWay ({ frames := 1, cells := 0, slots := 0, locals := 21 } : Room) 0 0 2 := ⟨callB_of 2 hts (gw_in tw_613) rfl rfl rfl (hts _ (List.mem_cons_of_mem _ tw_6)) hl hd_TR_hearUnderWay hR, hts _ (List.mem_cons_of_mem _ tw_612), hts _ (List.mem_cons_of_mem _ ps_TR_hearUnderWay)⟩
def g_TR_hear (f : Nat → Int32) (w : Nat → Int32) (x1 : Int32) (x2 : Int32) : (Nat → Int32) × (Nat → Int32) :=
  if x1 < 1 then ((f, w)) else (if x1 ≤ 3 then (if (f 14) = 0 then (if x1 = 3 then (((upd ((g_TR_hearUnderWay (upd f 9 (12 * (f 1))) w x1 x2).1) 6 ((((g_TR_hearUnderWay (upd f 9 (12 * (f 1))) w x1 x2).1) 6) ||| 262144)), ((g_TR_hearUnderWay (upd f 9 (12 * (f 1))) w x1 x2).2))) else ((((g_TR_hearUnderWay (upd f 9 (12 * (f 1))) w x1 x2).1), ((g_TR_hearUnderWay (upd f 9 (12 * (f 1))) w x1 x2).2)))) else (if x1 = 3 then (((upd (upd f 9 (12 * (f 1))) 6 ((f 6) ||| 262144)), w)) else (((upd f 9 (12 * (f 1))), w)))) else ((f, w)))
set_option maxHeartbeats 4000000 in
set_option maxRecDepth 100000 in
theorem c_TR_hear (l : Launch) {D : va_G} {ad : Nat → Nat} {cA : Nat → ClassId} {st : Nat → Nat} (hi : fl_inj ad 88) {q : Nat} (hq : is_TR q) (M : fl_M) (f : Nat → Int32) (w : Nat → Int32) (x1 : Int32) (x2 : Int32) : Met l y_TR_hear w_TR_hear ({ frames := 2, cells := 0, slots := 0, locals := 43 } : Room) (va_Pc [.ref (ad q), .int x1, .int x2] (fl_B D cls (xt cA) (xSL st) xFN xMN ad (xc ad cA) 88 (pTR M q f w))) (va_Qv (fun M' => M' = (pTR M q ((g_TR_hear f w x1 x2).1) ((g_TR_hear f w x1 x2).2))) (fl_E D cls ad (xc ad cA) 88) (fl_A ad 88)) 0 0 (fl_A ad 88) := by
  refine Met.ofW (cc := b_TR_hear) (maxL := 3) (ret := none) (by decide) rfl ?_
  intro p e s m args below meth c s₁ B hml hv
  obtain ⟨rfl, hP, hK, hSt, hN⟩ := hv
  have hx := B.exec
  have hb := B.bytes
  have hr := B.returns
  have hts := atoms_spec (ws := w_TR_hear) B.pre
  have hown : s.vm.findClass "FarLink$Transaction" = some m.cls := findClass_of_methodNamed B.named
  have hlocks := B.notSynchronized
  have hS : va_S (fl_A ad 88) s.heap s.heap [] := va_S.rf
  have hl := lv_entry ([.ref (ad q), .int x1, .int x2]) (n := 3) (Nat.le_of_ble_eq_true rfl)
  rw [lg_entry_eq]
  generalize (lg_sl ([.ref (ad q), .int x1, .int x2]) ++ List.replicate (3 - (lg_sl ([.ref (ad q), .int x1, .int x2])).length) Slot.unset).toArray = ls at hl ⊢
  have hl : lv_has ls 3 [(0, .ref (ad q)), (1, .int x1), (2, .int x2)] := hl
  have hG := g_TR_hear.eq_1 f w x1 x2
  refine lv_iload_n hx hb d_TR_hear_0 rfl (lv_at hl 1 rfl) ?_
  refine lv_iconst (v := 1) hx hb d_TR_hear_1 (by decide) ?_
  refine lv_icmp_lt (tgt := 10) hx hb d_TR_hear_2 (by decide) (fun h_1 => ?_) (fun h_1 => ?_)
  ·
    have hG := hG.trans (if_pos h_1)
    exact fl_vret hx hb hr hlocks hP hS (by rw [hG]) d_TR_hear_10
  ·
    have hG := hG.trans (if_neg h_1)
    refine lv_iload_n hx hb d_TR_hear_5 rfl (lv_at hl 1 rfl) ?_
    refine lv_iconst (v := 3) hx hb d_TR_hear_6 (by decide) ?_
    refine lv_icmp_le (tgt := 11) hx hb d_TR_hear_7 (by decide) (fun h_2 => ?_) (fun h_2 => ?_)
    ·
      have hG := hG.trans (if_pos h_2)
      refine lv_aload_n hx hb d_TR_hear_11 rfl (lv_at hl 0 rfl) ?_
      refine lv_bipush (v := 12) hx hb d_TR_hear_12 (by decide) ?_
      refine lv_aload_n hx hb d_TR_hear_14 rfl (lv_at hl 0 rfl) ?_
      refine gt_TR (k := 1) (v := .int (f 1)) hx hb hts hown hK hP hq (hts _ (List.mem_cons_of_mem _ tw_126)) (by decide) rfl rfl d_TR_hear_15 ?_
      refine lv_imul hx hb d_TR_hear_18 ?_
      refine pt_TR (k := 9) hx hb hts hown hK hi hP hS hq (hts _ (List.mem_cons_of_mem _ tw_135)) (by decide) rfl rfl rfl rfl (Nat.le_of_ble_eq_true rfl) rfl d_TR_hear_19 (fun H locs hP hS => ?_)
      refine lv_aload_n hx hb d_TR_hear_22 rfl (lv_at hl 0 rfl) ?_
      refine gt_TR (k := 14) (v := .int (f 14)) hx hb hts hown hK hP hq (hts _ (List.mem_cons_of_mem _ tw_140)) (by decide) rfl rfl d_TR_hear_23 ?_
      refine lv_if_ne (tgt := 35) hx hb d_TR_hear_26 (by decide) (fun h_3 => ?_) (fun h_3 => ?_)
      ·
        have hG := hG.trans (if_neg h_3)
        refine lv_iload_n hx hb d_TR_hear_35 rfl (lv_at hl 1 rfl) ?_
        refine lv_iconst (v := 3) hx hb d_TR_hear_36 (by decide) ?_
        refine lv_icmp_ne (tgt := 51) hx hb d_TR_hear_37 (by decide) (fun h_4 => ?_) (fun h_4 => ?_)
        ·
          have hG := hG.trans (if_neg h_4)
          exact fl_vret hx hb hr hlocks hP hS (by rw [hG]) d_TR_hear_51
        ·
          have hG := hG.trans (if_pos h_4)
          refine lv_aload_n hx hb d_TR_hear_40 rfl (lv_at hl 0 rfl) ?_
          refine lv_dup hx hb d_TR_hear_41 rfl ?_
          refine gt_TR (k := 6) (v := .int (f 6)) hx hb hts hown hK hP hq (hts _ (List.mem_cons_of_mem _ tw_132)) (by decide) rfl rfl d_TR_hear_42 ?_
          refine lv_ldc (v := 262144) hx hb hown (hts _ (List.mem_cons_of_mem _ tw_618)) d_TR_hear_45 ?_
          refine lv_ior hx hb d_TR_hear_47 ?_
          refine pt_TR (k := 6) hx hb hts hown hK hi hP hS hq (hts _ (List.mem_cons_of_mem _ tw_132)) (by decide) rfl rfl rfl rfl (Nat.le_of_ble_eq_true rfl) rfl d_TR_hear_48 (fun H locs hP hS => ?_)
          exact fl_vret hx hb hr hlocks hP hS (by rw [hG]) d_TR_hear_51
      ·
        have hG := hG.trans (if_pos h_3)
        refine lv_aload_n hx hb d_TR_hear_29 rfl (lv_at hl 0 rfl) ?_
        refine lv_iload_n hx hb d_TR_hear_30 rfl (lv_at hl 1 rfl) ?_
        refine lv_iload_n hx hb d_TR_hear_31 rfl (lv_at hl 2 rfl) ?_
        refine fl_callv (va_runV (As := [.int x1, .int x2]) (rest := []) ⟨hx, hb, hml, hown, hts⟩ (c_TR_hearUnderWay l hi hq M (upd f 9 (12 * (f 1))) w x1 x2) (kv_TR_hearUnderWay hts (hts _ (List.mem_cons_of_mem _ tw_610)) ⟨Nat.le_of_ble_eq_true rfl, Nat.le_of_ble_eq_true rfl⟩) (fl_preV hK hSt hN hS hP (lt_TR hq) (kc_TR hq) rfl) rfl rfl hl.1 rfl (lv_room (Nat.le_of_ble_eq_true rfl)) d_TR_hear_32 ⟨Nat.zero_le _, Nat.zero_le _⟩) hS (fun H locs hP hS => ?_)
        refine lv_iload_n hx hb d_TR_hear_35 rfl (lv_at hl 1 rfl) ?_
        refine lv_iconst (v := 3) hx hb d_TR_hear_36 (by decide) ?_
        refine lv_icmp_ne (tgt := 51) hx hb d_TR_hear_37 (by decide) (fun h_5 => ?_) (fun h_5 => ?_)
        ·
          have hG := hG.trans (if_neg h_5)
          exact fl_vret hx hb hr hlocks hP hS (by rw [hG]) d_TR_hear_51
        ·
          have hG := hG.trans (if_pos h_5)
          refine lv_aload_n hx hb d_TR_hear_40 rfl (lv_at hl 0 rfl) ?_
          refine lv_dup hx hb d_TR_hear_41 rfl ?_
          refine gt_TR (k := 6) (v := .int (((g_TR_hearUnderWay (upd f 9 (12 * (f 1))) w x1 x2).1) 6)) hx hb hts hown hK hP hq (hts _ (List.mem_cons_of_mem _ tw_132)) (by decide) rfl rfl d_TR_hear_42 ?_
          refine lv_ldc (v := 262144) hx hb hown (hts _ (List.mem_cons_of_mem _ tw_618)) d_TR_hear_45 ?_
          refine lv_ior hx hb d_TR_hear_47 ?_
          refine pt_TR (k := 6) hx hb hts hown hK hi hP hS hq (hts _ (List.mem_cons_of_mem _ tw_132)) (by decide) rfl rfl rfl rfl (Nat.le_of_ble_eq_true rfl) rfl d_TR_hear_48 (fun H locs hP hS => ?_)
          exact fl_vret hx hb hr hlocks hP hS (by rw [hG]) d_TR_hear_51
    ·
      have hG := hG.trans (if_neg h_2)
      exact fl_vret hx hb hr hlocks hP hS (by rw [hG]) d_TR_hear_10
theorem hd_TR_hear : y_TR_hear.cls ≠ "java/lang/invoke/MethodHandle" ∧ y_TR_hear.cls ≠ "java/lang/invoke/VarHandle" ∧ (parseMethodDescriptor y_TR_hear.desc).map (fun d => d.parameters.length) = some 2 := by decide +kernel
theorem kv_TR_hear {R : Room} {s : State} {args : Array Value} {c0 : Cond} {own : String} {index : Nat} (hts : ∀ w ∈ c0 :: gw, w.before args s = true) (hl : (Cond.methodLink own index y_TR_hear).before args s = true) (hR : 2 + 1 ≤ R.frames ∧ 8 + (3 + 11) + 43 ≤ R.locals) : CallW R s args own "FarLink$Transaction" index y_TR_hear b_TR_hear 3 none w_TR_hear ({ frames := 2, cells := 0, slots := 0, locals := 43 } : Room) 0 0 2 := ⟨callB_of 2 hts (gw_in tw_609) rfl rfl rfl (hts _ (List.mem_cons_of_mem _ tw_6)) hl hd_TR_hear hR, hts _ (List.mem_cons_of_mem _ tw_607), hts _ (List.mem_cons_of_mem _ tw_608)⟩
def g_TR_becomeSuspended (f : Nat → Int32) (w : Nat → Int32) (x1 : Int32) : Int32 × (Nat → Int32) × (Nat → Int32) :=
  if (f 14) = 0 then (if (f 13) = x1 then ((0, f, w)) else ((1, (upd f 13 x1), w))) else ((0, f, w))
set_option maxHeartbeats 4000000 in
set_option maxRecDepth 100000 in
theorem c_TR_becomeSuspended (l : Launch) {D : va_G} {ad : Nat → Nat} {cA : Nat → ClassId} {st : Nat → Nat} (hi : fl_inj ad 88) {q : Nat} (hq : is_TR q) (M : fl_M) (f : Nat → Int32) (w : Nat → Int32) (x1 : Int32) (hz1 : x1 &&& 1 = x1) : Met l y_TR_becomeSuspended w_TR_becomeSuspended ({ frames := 0, cells := 0, slots := 0, locals := 0 } : Room) (va_Pc [.ref (ad q), .int x1] (fl_B D cls (xt cA) (xSL st) xFN xMN ad (xc ad cA) 88 (pTR M q f w))) (va_Qi (fun r M' => r = (g_TR_becomeSuspended f w x1).1 ∧ M' = (pTR M q ((g_TR_becomeSuspended f w x1).2.1) ((g_TR_becomeSuspended f w x1).2.2))) (fl_E D cls ad (xc ad cA) 88) (fl_A ad 88)) 0 0 (fl_A ad 88) := by
  refine Met.ofW (cc := b_TR_becomeSuspended) (maxL := 2) (ret := (some .boolean)) (by decide) rfl ?_
  intro p e s m args below meth c s₁ B hml hv
  obtain ⟨rfl, hP, hK, hSt, hN⟩ := hv
  have hx := B.exec
  have hb := B.bytes
  have hr := B.returns
  have hts := atoms_spec (ws := w_TR_becomeSuspended) B.pre
  have hown : s.vm.findClass "FarLink$Transaction" = some m.cls := findClass_of_methodNamed B.named
  have hlocks := B.notSynchronized
  have hS : va_S (fl_A ad 88) s.heap s.heap [] := va_S.rf
  have hl := lv_entry ([.ref (ad q), .int x1]) (n := 2) (Nat.le_of_ble_eq_true rfl)
  rw [lg_entry_eq]
  generalize (lg_sl ([.ref (ad q), .int x1]) ++ List.replicate (2 - (lg_sl ([.ref (ad q), .int x1])).length) Slot.unset).toArray = ls at hl ⊢
  have hl : lv_has ls 2 [(0, .ref (ad q)), (1, .int x1)] := hl
  have hG := g_TR_becomeSuspended.eq_1 f w x1
  refine lv_aload_n hx hb d_TR_becomeSuspended_0 rfl (lv_at hl 0 rfl) ?_
  refine gt_TR (k := 14) (v := .int (f 14)) hx hb hts hown hK hP hq (hts _ (List.mem_cons_of_mem _ tw_140)) (by decide) rfl rfl d_TR_becomeSuspended_1 ?_
  refine lv_if_ne (tgt := 15) hx hb d_TR_becomeSuspended_4 (by decide) (fun h_1 => ?_) (fun h_1 => ?_)
  ·
    have hG := hG.trans (if_neg h_1)
    refine lv_iconst (v := 0) hx hb d_TR_becomeSuspended_15 (by decide) ?_
    exact fl_zret hx hb hr hlocks hP hS (rfl) (congrArg Prod.fst hG).symm (by rw [hG]) d_TR_becomeSuspended_16
  ·
    have hG := hG.trans (if_pos h_1)
    refine lv_aload_n hx hb d_TR_becomeSuspended_7 rfl (lv_at hl 0 rfl) ?_
    refine gt_TR (k := 13) (v := .int (f 13)) hx hb hts hown hK hP hq (hts _ (List.mem_cons_of_mem _ tw_139)) (by decide) rfl rfl d_TR_becomeSuspended_8 ?_
    refine lv_iload_n hx hb d_TR_becomeSuspended_11 rfl (lv_at hl 1 rfl) ?_
    refine lv_icmp_ne (tgt := 17) hx hb d_TR_becomeSuspended_12 (by decide) (fun h_2 => ?_) (fun h_2 => ?_)
    ·
      have hG := hG.trans (if_neg h_2)
      refine lv_aload_n hx hb d_TR_becomeSuspended_17 rfl (lv_at hl 0 rfl) ?_
      refine lv_iload_n hx hb d_TR_becomeSuspended_18 rfl (lv_at hl 1 rfl) ?_
      refine pt_TR (k := 13) hx hb hts hown hK hi hP hS hq (hts _ (List.mem_cons_of_mem _ tw_139)) (by decide) rfl rfl (congrArg Value.int (by assumption)) (fl_zfit (by assumption)) (Nat.le_of_ble_eq_true rfl) rfl d_TR_becomeSuspended_19 (fun H locs hP hS => ?_)
      refine lv_iconst (v := 1) hx hb d_TR_becomeSuspended_22 (by decide) ?_
      exact fl_zret hx hb hr hlocks hP hS (rfl) (congrArg Prod.fst hG).symm (by rw [hG]) d_TR_becomeSuspended_23
    ·
      have hG := hG.trans (if_pos h_2)
      refine lv_iconst (v := 0) hx hb d_TR_becomeSuspended_15 (by decide) ?_
      exact fl_zret hx hb hr hlocks hP hS (rfl) (congrArg Prod.fst hG).symm (by rw [hG]) d_TR_becomeSuspended_16
theorem z_TR_becomeSuspended (f : Nat → Int32) (w : Nat → Int32) (x1 : Int32) : (g_TR_becomeSuspended f w x1).1 &&& 1 = (g_TR_becomeSuspended f w x1).1 := by
  unfold g_TR_becomeSuspended
  repeat (first | split | (show (0 : Int32) &&& 1 = 0; rfl) | (show (1 : Int32) &&& 1 = 1; rfl) | rfl)
theorem hd_TR_becomeSuspended : y_TR_becomeSuspended.cls ≠ "java/lang/invoke/MethodHandle" ∧ y_TR_becomeSuspended.cls ≠ "java/lang/invoke/VarHandle" ∧ (parseMethodDescriptor y_TR_becomeSuspended.desc).map (fun d => d.parameters.length) = some 1 := by decide +kernel
theorem kv_TR_becomeSuspended {R : Room} {s : State} {args : Array Value} {c0 : Cond} {own : String} {index : Nat} (hts : ∀ w ∈ c0 :: gw, w.before args s = true) (hl : (Cond.methodLink own index y_TR_becomeSuspended).before args s = true) (hR : 0 + 1 ≤ R.frames ∧ 8 + (2 + 11) + 0 ≤ R.locals) : CallW R s args own "FarLink$Transaction" index y_TR_becomeSuspended b_TR_becomeSuspended 2 (some .boolean) w_TR_becomeSuspended ({ frames := 0, cells := 0, slots := 0, locals := 0 } : Room) 0 0 1 := ⟨callB_of 1 hts (gw_in tw_348) rfl rfl rfl (hts _ (List.mem_cons_of_mem _ tw_6)) hl hd_TR_becomeSuspended hR, hts _ (List.mem_cons_of_mem _ tw_346), hts _ (List.mem_cons_of_mem _ tw_347)⟩
