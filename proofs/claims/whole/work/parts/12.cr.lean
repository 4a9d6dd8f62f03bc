/-! contracts: 12.cr -/
def g_CR_looksAt (f : Nat → Int32) (w : Nat → Int32) (x1 : Int32) : Int32 :=
  if (f 2) = 0 then (if x1 < 1 then (0) else (if 4 < x1 then (0) else (1))) else (if x1 < 1 then (0) else (if 5 < x1 then (0) else (1)))
set_option maxHeartbeats 4000000 in
set_option maxRecDepth 100000 in
theorem c_CR_looksAt (l : Launch) {D : va_G} {ad : Nat → Nat} {cA : Nat → ClassId} {st : Nat → Nat} (hi : fl_inj ad 88) {q : Nat} (hq : is_CR q) (M : fl_M) (f : Nat → Int32) (w : Nat → Int32) (x1 : Int32) : Met l y_CR_looksAt w_CR_looksAt ({ frames := 0, cells := 0, slots := 0, locals := 0 } : Room) (va_Pc [.ref (ad q), .int x1] (fl_B D cls (xt cA) (xSL st) xFN xMN ad (xc ad cA) 88 (pCR M q f w))) (va_Qi (fun r M' => r = (g_CR_looksAt f w x1) ∧ M' = (pCR M q f w)) (fl_E D cls ad (xc ad cA) 88) (fl_A ad 88)) 0 0 (fl_A ad 88) := by
  refine Met.ofW (cc := b_CR_looksAt) (maxL := 3) (ret := (some .boolean)) (by decide) rfl ?_
  intro p e s m args below meth c s₁ B hml hv
  obtain ⟨rfl, hP, hK, hSt, hN⟩ := hv
  have hx := B.exec
  have hb := B.bytes
  have hr := B.returns
  have hts := atoms_spec (ws := w_CR_looksAt) B.pre
  have hown : s.vm.findClass "FarLink$CraftRecord" = some m.cls := findClass_of_methodNamed B.named
  have hlocks := B.notSynchronized
  have hS : va_S (fl_A ad 88) s.heap s.heap [] := va_S.rf
  have hl := lv_entry ([.ref (ad q), .int x1]) (n := 3) (Nat.le_of_ble_eq_true rfl)
  rw [lg_entry_eq]
  generalize (lg_sl ([.ref (ad q), .int x1]) ++ List.replicate (3 - (lg_sl ([.ref (ad q), .int x1])).length) Slot.unset).toArray = ls at hl ⊢
  have hl : lv_has ls 3 [(0, .ref (ad q)), (1, .int x1)] := hl
  have hG := g_CR_looksAt.eq_1 f w x1
  refine lv_aload_n hx hb d_CR_looksAt_0 rfl (lv_at hl 0 rfl) ?_
  refine gt_CR (k := 2) (v := .int (f 2)) hx hb hts hown hK hP hq (hts _ (List.mem_cons_of_mem _ tw_219)) (by decide) rfl rfl d_CR_looksAt_1 ?_
  refine lv_if_ne (tgt := 11) hx hb d_CR_looksAt_4 (by decide) (fun h_1 => ?_) (fun h_1 => ?_)
  ·
    have hG := hG.trans (if_neg h_1)
    refine lv_iconst (v := 5) hx hb d_CR_looksAt_11 (by decide) ?_
    refine lv_istore_n (lv' := [(2, .int 5), (0, .ref (ad q)), (1, .int x1)]) hx hb d_CR_looksAt_12 rfl hl (by decide) rfl (fun ls hl => ?_)
    refine lv_iload_n hx hb d_CR_looksAt_13 rfl (lv_at hl 2 rfl) ?_
    refine lv_iconst (v := 1) hx hb d_CR_looksAt_14 (by decide) ?_
    refine lv_icmp_lt (tgt := 27) hx hb d_CR_looksAt_15 (by decide) (fun h_2 => ?_) (fun h_2 => ?_)
    ·
      have hG := hG.trans (if_pos h_2)
      refine lv_iconst (v := 0) hx hb d_CR_looksAt_27 (by decide) ?_
      exact fl_zret hx hb hr hlocks hP hS (rfl) hG.symm rfl d_CR_looksAt_28
    ·
      have hG := hG.trans (if_neg h_2)
      refine lv_iload_n hx hb d_CR_looksAt_18 rfl (lv_at hl 2 rfl) ?_
      refine lv_iload_n hx hb d_CR_looksAt_19 rfl (lv_at hl 0 rfl) ?_
      refine lv_icmp_gt (tgt := 27) hx hb d_CR_looksAt_20 (by decide) (fun h_3 => ?_) (fun h_3 => ?_)
      ·
        have hG := hG.trans (if_pos h_3)
        refine lv_iconst (v := 0) hx hb d_CR_looksAt_27 (by decide) ?_
        exact fl_zret hx hb hr hlocks hP hS (rfl) hG.symm rfl d_CR_looksAt_28
      ·
        have hG := hG.trans (if_neg h_3)
        refine lv_iconst (v := 1) hx hb d_CR_looksAt_23 (by decide) ?_
        refine lv_goto (tgt := 28) hx hb d_CR_looksAt_24 (by decide) ?_
        exact fl_zret hx hb hr hlocks hP hS (rfl) hG.symm rfl d_CR_looksAt_28
  ·
    have hG := hG.trans (if_pos h_1)
    refine lv_iconst (v := 4) hx hb d_CR_looksAt_7 (by decide) ?_
    refine lv_goto (tgt := 12) hx hb d_CR_looksAt_8 (by decide) ?_
    refine lv_istore_n (lv' := [(2, .int 4), (0, .ref (ad q)), (1, .int x1)]) hx hb d_CR_looksAt_12 rfl hl (by decide) rfl (fun ls hl => ?_)
    refine lv_iload_n hx hb d_CR_looksAt_13 rfl (lv_at hl 2 rfl) ?_
    refine lv_iconst (v := 1) hx hb d_CR_looksAt_14 (by decide) ?_
    refine lv_icmp_lt (tgt := 27) hx hb d_CR_looksAt_15 (by decide) (fun h_4 => ?_) (fun h_4 => ?_)
    ·
      have hG := hG.trans (if_pos h_4)
      refine lv_iconst (v := 0) hx hb d_CR_looksAt_27 (by decide) ?_
      exact fl_zret hx hb hr hlocks hP hS (rfl) hG.symm rfl d_CR_looksAt_28
    ·
      have hG := hG.trans (if_neg h_4)
      refine lv_iload_n hx hb d_CR_looksAt_18 rfl (lv_at hl 2 rfl) ?_
      refine lv_iload_n hx hb d_CR_looksAt_19 rfl (lv_at hl 0 rfl) ?_
      refine lv_icmp_gt (tgt := 27) hx hb d_CR_looksAt_20 (by decide) (fun h_5 => ?_) (fun h_5 => ?_)
      ·
        have hG := hG.trans (if_pos h_5)
        refine lv_iconst (v := 0) hx hb d_CR_looksAt_27 (by decide) ?_
        exact fl_zret hx hb hr hlocks hP hS (rfl) hG.symm rfl d_CR_looksAt_28
      ·
        have hG := hG.trans (if_neg h_5)
        refine lv_iconst (v := 1) hx hb d_CR_looksAt_23 (by decide) ?_
        refine lv_goto (tgt := 28) hx hb d_CR_looksAt_24 (by decide) ?_
        exact fl_zret hx hb hr hlocks hP hS (rfl) hG.symm rfl d_CR_looksAt_28
theorem z_CR_looksAt (f : Nat → Int32) (w : Nat → Int32) (x1 : Int32) : g_CR_looksAt f w x1 &&& 1 = g_CR_looksAt f w x1 := by
  unfold g_CR_looksAt
  repeat (first | split | (show (0 : Int32) &&& 1 = 0; rfl) | (show (1 : Int32) &&& 1 = 1; rfl) | rfl)
theorem hd_CR_looksAt : y_CR_looksAt.cls ≠ "java/lang/invoke/MethodHandle" ∧ y_CR_looksAt.cls ≠ "java/lang/invoke/VarHandle" ∧ (parseMethodDescriptor y_CR_looksAt.desc).map (fun d => d.parameters.length) = some 1 := by decide +kernel
theorem kv_CR_looksAt {R : Room} {s : State} {args : Array Value} {c0 : Cond} {own : String} {index : Nat} (hts : ∀ w ∈ c0 :: gw, w.before args s = true) (hl : (Cond.methodLink own index y_CR_looksAt).before args s = true) (hR : 0 + 1 ≤ R.frames ∧ 8 + (3 + 11) + 0 ≤ R.locals) : CallW R s args own "FarLink$CraftRecord" index y_CR_looksAt b_CR_looksAt 3 (some .boolean) w_CR_looksAt ({ frames := 0, cells := 0, slots := 0, locals := 0 } : Room) 0 0 1 := ⟨callB_of 1 hts (gw_in tw_465) rfl rfl rfl (hts _ (List.mem_cons_of_mem _ tw_9)) hl hd_CR_looksAt hR, hts _ (List.mem_cons_of_mem _ tw_464), hts _ (List.mem_cons_of_mem _ ps_CR_looksAt)⟩
def g_CR_has (f : Nat → Int32) (w : Nat → Int32) (x1 : Int32) : Int32 :=
  if ((f 4) &&& x1) = 0 then (0) else (1)
set_option maxHeartbeats 4000000 in
set_option maxRecDepth 100000 in
theorem c_CR_has (l : Launch) {D : va_G} {ad : Nat → Nat} {cA : Nat → ClassId} {st : Nat → Nat} (hi : fl_inj ad 88) {q : Nat} (hq : is_CR q) (M : fl_M) (f : Nat → Int32) (w : Nat → Int32) (x1 : Int32) : Met l y_CR_has w_CR_has ({ frames := 0, cells := 0, slots := 0, locals := 0 } : Room) (va_Pc [.ref (ad q), .int x1] (fl_B D cls (xt cA) (xSL st) xFN xMN ad (xc ad cA) 88 (pCR M q f w))) (va_Qi (fun r M' => r = (g_CR_has f w x1) ∧ M' = (pCR M q f w)) (fl_E D cls ad (xc ad cA) 88) (fl_A ad 88)) 0 0 (fl_A ad 88) := by
  refine Met.ofW (cc := b_CR_has) (maxL := 2) (ret := (some .boolean)) (by decide) rfl ?_
  intro p e s m args below meth c s₁ B hml hv
  obtain ⟨rfl, hP, hK, hSt, hN⟩ := hv
  have hx := B.exec
  have hb := B.bytes
  have hr := B.returns
  have hts := atoms_spec (ws := w_CR_has) B.pre
  have hown : s.vm.findClass "FarLink$CraftRecord" = some m.cls := findClass_of_methodNamed B.named
  have hlocks := B.notSynchronized
  have hS : va_S (fl_A ad 88) s.heap s.heap [] := va_S.rf
  have hl := lv_entry ([.ref (ad q), .int x1]) (n := 2) (Nat.le_of_ble_eq_true rfl)
  rw [lg_entry_eq]
  generalize (lg_sl ([.ref (ad q), .int x1]) ++ List.replicate (2 - (lg_sl ([.ref (ad q), .int x1])).length) Slot.unset).toArray = ls at hl ⊢
  have hl : lv_has ls 2 [(0, .ref (ad q)), (1, .int x1)] := hl
  have hG := g_CR_has.eq_1 f w x1
  refine lv_aload_n hx hb d_CR_has_0 rfl (lv_at hl 0 rfl) ?_
  refine gt_CR (k := 4) (v := .int (f 4)) hx hb hts hown hK hP hq (hts _ (List.mem_cons_of_mem _ tw_223)) (by decide) rfl rfl d_CR_has_1 ?_
  refine lv_iload_n hx hb d_CR_has_4 rfl (lv_at hl 1 rfl) ?_
  refine lv_iand hx hb d_CR_has_5 ?_
  refine lv_if_eq (tgt := 13) hx hb d_CR_has_6 (by decide) (fun h_1 => ?_) (fun h_1 => ?_)
  ·
    have hG := hG.trans (if_pos h_1)
    refine lv_iconst (v := 0) hx hb d_CR_has_13 (by decide) ?_
    exact fl_zret hx hb hr hlocks hP hS (rfl) hG.symm rfl d_CR_has_14
  ·
    have hG := hG.trans (if_neg h_1)
    refine lv_iconst (v := 1) hx hb d_CR_has_9 (by decide) ?_
    refine lv_goto (tgt := 14) hx hb d_CR_has_10 (by decide) ?_
    exact fl_zret hx hb hr hlocks hP hS (rfl) hG.symm rfl d_CR_has_14
theorem z_CR_has (f : Nat → Int32) (w : Nat → Int32) (x1 : Int32) : g_CR_has f w x1 &&& 1 = g_CR_has f w x1 := by
  unfold g_CR_has
  repeat (first | split | (show (0 : Int32) &&& 1 = 0; rfl) | (show (1 : Int32) &&& 1 = 1; rfl) | rfl)
theorem hd_CR_has : y_CR_has.cls ≠ "java/lang/invoke/MethodHandle" ∧ y_CR_has.cls ≠ "java/lang/invoke/VarHandle" ∧ (parseMethodDescriptor y_CR_has.desc).map (fun d => d.parameters.length) = some 1 := by decide +kernel
theorem kv_CR_has {R : Room} {s : State} {args : Array Value} {c0 : Cond} {own : String} {index : Nat} (hts : ∀ w ∈ c0 :: gw, w.before args s = true) (hl : (Cond.methodLink own index y_CR_has).before args s = true) (hR : 0 + 1 ≤ R.frames ∧ 8 + (2 + 11) + 0 ≤ R.locals) : CallW R s args own "FarLink$CraftRecord" index y_CR_has b_CR_has 2 (some .boolean) w_CR_has ({ frames := 0, cells := 0, slots := 0, locals := 0 } : Room) 0 0 1 := ⟨callB_of 1 hts (gw_in tw_486) rfl rfl rfl (hts _ (List.mem_cons_of_mem _ tw_9)) hl hd_CR_has hR, hts _ (List.mem_cons_of_mem _ tw_485), hts _ (List.mem_cons_of_mem _ ps_CR_has)⟩
def g_CR_missingParts (f : Nat → Int32) (w : Nat → Int32) : Int32 :=
  262143 &&& ((f 4) ^^^ (-1))
set_option maxHeartbeats 4000000 in
set_option maxRecDepth 100000 in
theorem c_CR_missingParts (l : Launch) {D : va_G} {ad : Nat → Nat} {cA : Nat → ClassId} {st : Nat → Nat} (hi : fl_inj ad 88) {q : Nat} (hq : is_CR q) (M : fl_M) (f : Nat → Int32) (w : Nat → Int32) : Met l y_CR_missingParts w_CR_missingParts ({ frames := 0, cells := 0, slots := 0, locals := 0 } : Room) (va_Pc [.ref (ad q)] (fl_B D cls (xt cA) (xSL st) xFN xMN ad (xc ad cA) 88 (pCR M q f w))) (va_Qi (fun r M' => r = (g_CR_missingParts f w) ∧ M' = (pCR M q f w)) (fl_E D cls ad (xc ad cA) 88) (fl_A ad 88)) 0 0 (fl_A ad 88) := by
  refine Met.ofW (cc := b_CR_missingParts) (maxL := 1) (ret := (some .int)) (by decide) rfl ?_
  intro p e s m args below meth c s₁ B hml hv
  obtain ⟨rfl, hP, hK, hSt, hN⟩ := hv
  have hx := B.exec
  have hb := B.bytes
  have hr := B.returns
  have hts := atoms_spec (ws := w_CR_missingParts) B.pre
  have hown : s.vm.findClass "FarLink$CraftRecord" = some m.cls := findClass_of_methodNamed B.named
  have hlocks := B.notSynchronized
  have hS : va_S (fl_A ad 88) s.heap s.heap [] := va_S.rf
  have hl := lv_entry ([.ref (ad q)]) (n := 1) (Nat.le_of_ble_eq_true rfl)
  rw [lg_entry_eq]
  generalize (lg_sl ([.ref (ad q)]) ++ List.replicate (1 - (lg_sl ([.ref (ad q)])).length) Slot.unset).toArray = ls at hl ⊢
  have hl : lv_has ls 1 [(0, .ref (ad q))] := hl
  have hG := g_CR_missingParts.eq_1 f w
  refine lv_ldc (v := 262143) hx hb hown (hts _ (List.mem_cons_of_mem _ tw_505)) d_CR_missingParts_0 ?_
  refine lv_aload_n hx hb d_CR_missingParts_2 rfl (lv_at hl 0 rfl) ?_
  refine gt_CR (k := 4) (v := .int (f 4)) hx hb hts hown hK hP hq (hts _ (List.mem_cons_of_mem _ tw_223)) (by decide) rfl rfl d_CR_missingParts_3 ?_
  refine lv_iconst (v := -1) hx hb d_CR_missingParts_6 (by decide) ?_
  refine lv_ixor hx hb d_CR_missingParts_7 ?_
  refine lv_iand hx hb d_CR_missingParts_8 ?_
  exact fl_iret hx hb hr hlocks hP hS hG.symm rfl d_CR_missingParts_9
theorem hd_CR_missingParts : y_CR_missingParts.cls ≠ "java/lang/invoke/MethodHandle" ∧ y_CR_missingParts.cls ≠ "java/lang/invoke/VarHandle" ∧ (parseMethodDescriptor y_CR_missingParts.desc).map (fun d => d.parameters.length) = some 0 := by decide +kernel
theorem kv_CR_missingParts {R : Room} {s : State} {args : Array Value} {c0 : Cond} {own : String} {index : Nat} (hts : ∀ w ∈ c0 :: gw, w.before args s = true) (hl : (Cond.methodLink own index y_CR_missingParts).before args s = true) (hR : 0 + 1 ≤ R.frames ∧ 8 + (1 + 11) + 0 ≤ R.locals) : CallW R s args own "FarLink$CraftRecord" index y_CR_missingParts b_CR_missingParts 1 (some .int) w_CR_missingParts ({ frames := 0, cells := 0, slots := 0, locals := 0 } : Room) 0 0 0 := ⟨callB_of 0 hts (gw_in tw_504) rfl rfl rfl (hts _ (List.mem_cons_of_mem _ tw_9)) hl hd_CR_missingParts hR, hts _ (List.mem_cons_of_mem _ tw_502), hts _ (List.mem_cons_of_mem _ tw_503)⟩
def g_CR_askForParts (f : Nat → Int32) (w : Nat → Int32) : (Nat → Int32) × (Nat → Int32) :=
  ((upd (upd f 13 1) 10 (3 * (f 0))), w)
set_option maxHeartbeats 4000000 in
set_option maxRecDepth 100000 in
theorem c_CR_askForParts (l : Launch) {D : va_G} {ad : Nat → Nat} {cA : Nat → ClassId} {st : Nat → Nat} (hi : fl_inj ad 88) {q : Nat} (hq : is_CR q) (M : fl_M) (f : Nat → Int32) (w : Nat → Int32) : Met l y_CR_askForParts w_CR_askForParts ({ frames := 0, cells := 0, slots := 0, locals := 0 } : Room) (va_Pc [.ref (ad q)] (fl_B D cls (xt cA) (xSL st) xFN xMN ad (xc ad cA) 88 (pCR M q f w))) (va_Qv (fun M' => M' = (pCR M q ((g_CR_askForParts f w).1) ((g_CR_askForParts f w).2))) (fl_E D cls ad (xc ad cA) 88) (fl_A ad 88)) 0 0 (fl_A ad 88) := by
  refine Met.ofW (cc := b_CR_askForParts) (maxL := 1) (ret := none) (by decide) rfl ?_
  intro p e s m args below meth c s₁ B hml hv
  obtain ⟨rfl, hP, hK, hSt, hN⟩ := hv
  have hx := B.exec
  have hb := B.bytes
  have hr := B.returns
  have hts := atoms_spec (ws := w_CR_askForParts) B.pre
  have hown : s.vm.findClass "FarLink$CraftRecord" = some m.cls := findClass_of_methodNamed B.named
  have hlocks := B.notSynchronized
  have hS : va_S (fl_A ad 88) s.heap s.heap [] := va_S.rf
  have hl := lv_entry ([.ref (ad q)]) (n := 1) (Nat.le_of_ble_eq_true rfl)
  rw [lg_entry_eq]
  generalize (lg_sl ([.ref (ad q)]) ++ List.replicate (1 - (lg_sl ([.ref (ad q)])).length) Slot.unset).toArray = ls at hl ⊢
  have hl : lv_has ls 1 [(0, .ref (ad q))] := hl
  have hG := g_CR_askForParts.eq_1 f w
  refine lv_aload_n hx hb d_CR_askForParts_0 rfl (lv_at hl 0 rfl) ?_
  refine lv_iconst (v := 1) hx hb d_CR_askForParts_1 (by decide) ?_
  refine pt_CR (k := 13) hx hb hts hown hK hi hP hS hq (hts _ (List.mem_cons_of_mem _ tw_234)) (by decide) rfl rfl (rfl) (rfl) (Nat.le_of_ble_eq_true rfl) rfl d_CR_askForParts_2 (fun H locs hP hS => ?_)
  refine lv_aload_n hx hb d_CR_askForParts_5 rfl (lv_at hl 0 rfl) ?_
  refine lv_iconst (v := 3) hx hb d_CR_askForParts_6 (by decide) ?_
  refine lv_aload_n hx hb d_CR_askForParts_7 rfl (lv_at hl 0 rfl) ?_
  refine gt_CR (k := 0) (v := .int (f 0)) hx hb hts hown hK hP hq (hts _ (List.mem_cons_of_mem _ tw_215)) (by decide) rfl rfl d_CR_askForParts_8 ?_
  refine lv_imul hx hb d_CR_askForParts_11 ?_
  refine pt_CR (k := 10) hx hb hts hown hK hi hP hS hq (hts _ (List.mem_cons_of_mem _ tw_231)) (by decide) rfl rfl rfl rfl (Nat.le_of_ble_eq_true rfl) rfl d_CR_askForParts_12 (fun H locs hP hS => ?_)
  exact fl_vret hx hb hr hlocks hP hS (by rw [hG]) d_CR_askForParts_15
theorem hd_CR_askForParts : y_CR_askForParts.cls ≠ "java/lang/invoke/MethodHandle" ∧ y_CR_askForParts.cls ≠ "java/lang/invoke/VarHandle" ∧ (parseMethodDescriptor y_CR_askForParts.desc).map (fun d => d.parameters.length) = some 0 := by decide +kernel
theorem kv_CR_askForParts {R : Room} {s : State} {args : Array Value} {c0 : Cond} {own : String} {index : Nat} (hts : ∀ w ∈ c0 :: gw, w.before args s = true) (hl : (Cond.methodLink own index y_CR_askForParts).before args s = true) (hR : 0 + 1 ≤ R.frames ∧ 8 + (1 + 11) + 0 ≤ R.locals) : CallW R s args own "FarLink$CraftRecord" index y_CR_askForParts b_CR_askForParts 1 none w_CR_askForParts ({ frames := 0, cells := 0, slots := 0, locals := 0 } : Room) 0 0 0 := ⟨callB_of 0 hts (gw_in tw_514) rfl rfl rfl (hts _ (List.mem_cons_of_mem _ tw_9)) hl hd_CR_askForParts hR, hts _ (List.mem_cons_of_mem _ tw_513), hts _ (List.mem_cons_of_mem _ ps_CR_askForParts)⟩
def g_CR_tellFinished (f : Nat → Int32) (w : Nat → Int32) : (Nat → Int32) × (Nat → Int32) :=
  ((upd (upd f 14 1) 10 (3 * (f 0))), w)
set_option maxHeartbeats 4000000 in
set_option maxRecDepth 100000 in
theorem c_CR_tellFinished (l : Launch) {D : va_G} {ad : Nat → Nat} {cA : Nat → ClassId} {st : Nat → Nat} (hi : fl_inj ad 88) {q : Nat} (hq : is_CR q) (M : fl_M) (f : Nat → Int32) (w : Nat → Int32) : Met l y_CR_tellFinished w_CR_tellFinished ({ frames := 0, cells := 0, slots := 0, locals := 0 } : Room) (va_Pc [.ref (ad q)] (fl_B D cls (xt cA) (xSL st) xFN xMN ad (xc ad cA) 88 (pCR M q f w))) (va_Qv (fun M' => M' = (pCR M q ((g_CR_tellFinished f w).1) ((g_CR_tellFinished f w).2))) (fl_E D cls ad (xc ad cA) 88) (fl_A ad 88)) 0 0 (fl_A ad 88) := by
  refine Met.ofW (cc := b_CR_tellFinished) (maxL := 1) (ret := none) (by decide) rfl ?_
  intro p e s m args below meth c s₁ B hml hv
  obtain ⟨rfl, hP, hK, hSt, hN⟩ := hv
  have hx := B.exec
  have hb := B.bytes
  have hr := B.returns
  have hts := atoms_spec (ws := w_CR_tellFinished) B.pre
  have hown : s.vm.findClass "FarLink$CraftRecord" = some m.cls := findClass_of_methodNamed B.named
  have hlocks := B.notSynchronized
  have hS : va_S (fl_A ad 88) s.heap s.heap [] := va_S.rf
  have hl := lv_entry ([.ref (ad q)]) (n := 1) (Nat.le_of_ble_eq_true rfl)
  rw [lg_entry_eq]
  generalize (lg_sl ([.ref (ad q)]) ++ List.replicate (1 - (lg_sl ([.ref (ad q)])).length) Slot.unset).toArray = ls at hl ⊢
  have hl : lv_has ls 1 [(0, .ref (ad q))] := hl
  have hG := g_CR_tellFinished.eq_1 f w
  refine lv_aload_n hx hb d_CR_tellFinished_0 rfl (lv_at hl 0 rfl) ?_
  refine lv_iconst (v := 1) hx hb d_CR_tellFinished_1 (by decide) ?_
  refine pt_CR (k := 14) hx hb hts hown hK hi hP hS hq (hts _ (List.mem_cons_of_mem _ tw_235)) (by decide) rfl rfl (rfl) (rfl) (Nat.le_of_ble_eq_true rfl) rfl d_CR_tellFinished_2 (fun H locs hP hS => ?_)
  refine lv_aload_n hx hb d_CR_tellFinished_5 rfl (lv_at hl 0 rfl) ?_
  refine lv_iconst (v := 3) hx hb d_CR_tellFinished_6 (by decide) ?_
  refine lv_aload_n hx hb d_CR_tellFinished_7 rfl (lv_at hl 0 rfl) ?_
  refine gt_CR (k := 0) (v := .int (f 0)) hx hb hts hown hK hP hq (hts _ (List.mem_cons_of_mem _ tw_215)) (by decide) rfl rfl d_CR_tellFinished_8 ?_
  refine lv_imul hx hb d_CR_tellFinished_11 ?_
  refine pt_CR (k := 10) hx hb hts hown hK hi hP hS hq (hts _ (List.mem_cons_of_mem _ tw_231)) (by decide) rfl rfl rfl rfl (Nat.le_of_ble_eq_true rfl) rfl d_CR_tellFinished_12 (fun H locs hP hS => ?_)
  exact fl_vret hx hb hr hlocks hP hS (by rw [hG]) d_CR_tellFinished_15
theorem hd_CR_tellFinished : y_CR_tellFinished.cls ≠ "java/lang/invoke/MethodHandle" ∧ y_CR_tellFinished.cls ≠ "java/lang/invoke/VarHandle" ∧ (parseMethodDescriptor y_CR_tellFinished.desc).map (fun d => d.parameters.length) = some 0 := by decide +kernel
theorem kv_CR_tellFinished {R : Room} {s : State} {args : Array Value} {c0 : Cond} {own : String} {index : Nat} (hts : ∀ w ∈ c0 :: gw, w.before args s = true) (hl : (Cond.methodLink own index y_CR_tellFinished).before args s = true) (hR : 0 + 1 ≤ R.frames ∧ 8 + (1 + 11) + 0 ≤ R.locals) : CallW R s args own "FarLink$CraftRecord" index y_CR_tellFinished b_CR_tellFinished 1 none w_CR_tellFinished ({ frames := 0, cells := 0, slots := 0, locals := 0 } : Room) 0 0 0 := ⟨callB_of 0 hts (gw_in tw_477) rfl rfl rfl (hts _ (List.mem_cons_of_mem _ tw_9)) hl hd_CR_tellFinished hR, hts _ (List.mem_cons_of_mem _ tw_476), hts _ (List.mem_cons_of_mem _ ps_CR_tellFinished)⟩
def g_CR_becomeClosed (f : Nat → Int32) (w : Nat → Int32) : (Nat → Int32) × (Nat → Int32) :=
  ((upd (upd (upd f 2 3) 13 0) 14 0), w)
set_option maxHeartbeats 4000000 in
set_option maxRecDepth 100000 in
theorem c_CR_becomeClosed (l : Launch) {D : va_G} {ad : Nat → Nat} {cA : Nat → ClassId} {st : Nat → Nat} (hi : fl_inj ad 88) {q : Nat} (hq : is_CR q) (M : fl_M) (f : Nat → Int32) (w : Nat → Int32) : Met l y_CR_becomeClosed w_CR_becomeClosed ({ frames := 0, cells := 0, slots := 0, locals := 0 } : Room) (va_Pc [.ref (ad q)] (fl_B D cls (xt cA) (xSL st) xFN xMN ad (xc ad cA) 88 (pCR M q f w))) (va_Qv (fun M' => M' = (pCR M q ((g_CR_becomeClosed f w).1) ((g_CR_becomeClosed f w).2))) (fl_E D cls ad (xc ad cA) 88) (fl_A ad 88)) 0 0 (fl_A ad 88) := by
  refine Met.ofW (cc := b_CR_becomeClosed) (maxL := 1) (ret := none) (by decide) rfl ?_
  intro p e s m args below meth c s₁ B hml hv
  obtain ⟨rfl, hP, hK, hSt, hN⟩ := hv
  have hx := B.exec
  have hb := B.bytes
  have hr := B.returns
  have hts := atoms_spec (ws := w_CR_becomeClosed) B.pre
  have hown : s.vm.findClass "FarLink$CraftRecord" = some m.cls := findClass_of_methodNamed B.named
  have hlocks := B.notSynchronized
  have hS : va_S (fl_A ad 88) s.heap s.heap [] := va_S.rf
  have hl := lv_entry ([.ref (ad q)]) (n := 1) (Nat.le_of_ble_eq_true rfl)
  rw [lg_entry_eq]
  generalize (lg_sl ([.ref (ad q)]) ++ List.replicate (1 - (lg_sl ([.ref (ad q)])).length) Slot.unset).toArray = ls at hl ⊢
  have hl : lv_has ls 1 [(0, .ref (ad q))] := hl
  have hG := g_CR_becomeClosed.eq_1 f w
  refine lv_aload_n hx hb d_CR_becomeClosed_0 rfl (lv_at hl 0 rfl) ?_
  refine lv_iconst (v := 3) hx hb d_CR_becomeClosed_1 (by decide) ?_
  refine pt_CR (k := 2) hx hb hts hown hK hi hP hS hq (hts _ (List.mem_cons_of_mem _ tw_219)) (by decide) rfl rfl rfl rfl (Nat.le_of_ble_eq_true rfl) rfl d_CR_becomeClosed_2 (fun H locs hP hS => ?_)
  refine lv_aload_n hx hb d_CR_becomeClosed_5 rfl (lv_at hl 0 rfl) ?_
  refine lv_iconst (v := 0) hx hb d_CR_becomeClosed_6 (by decide) ?_
  refine pt_CR (k := 13) hx hb hts hown hK hi hP hS hq (hts _ (List.mem_cons_of_mem _ tw_234)) (by decide) rfl rfl (rfl) (rfl) (Nat.le_of_ble_eq_true rfl) rfl d_CR_becomeClosed_7 (fun H locs hP hS => ?_)
  refine lv_aload_n hx hb d_CR_becomeClosed_10 rfl (lv_at hl 0 rfl) ?_
  refine lv_iconst (v := 0) hx hb d_CR_becomeClosed_11 (by decide) ?_
  refine pt_CR (k := 14) hx hb hts hown hK hi hP hS hq (hts _ (List.mem_cons_of_mem _ tw_235)) (by decide) rfl rfl (rfl) (rfl) (Nat.le_of_ble_eq_true rfl) rfl d_CR_becomeClosed_12 (fun H locs hP hS => ?_)
  exact fl_vret hx hb hr hlocks hP hS (by rw [hG]) d_CR_becomeClosed_15
theorem hd_CR_becomeClosed : y_CR_becomeClosed.cls ≠ "java/lang/invoke/MethodHandle" ∧ y_CR_becomeClosed.cls ≠ "java/lang/invoke/VarHandle" ∧ (parseMethodDescriptor y_CR_becomeClosed.desc).map (fun d => d.parameters.length) = some 0 := by decide +kernel
theorem kv_CR_becomeClosed {R : Room} {s : State} {args : Array Value} {c0 : Cond} {own : String} {index : Nat} (hts : ∀ w ∈ c0 :: gw, w.before args s = true) (hl : (Cond.methodLink own index y_CR_becomeClosed).before args s = true) (hR : 0 + 1 ≤ R.frames ∧ 8 + (1 + 11) + 0 ≤ R.locals) : CallW R s args own "FarLink$CraftRecord" index y_CR_becomeClosed b_CR_becomeClosed 1 none w_CR_becomeClosed ({ frames := 0, cells := 0, slots := 0, locals := 0 } : Room) 0 0 0 := ⟨callB_of 0 hts (gw_in tw_518) rfl rfl rfl (hts _ (List.mem_cons_of_mem _ tw_9)) hl hd_CR_becomeClosed hR, hts _ (List.mem_cons_of_mem _ tw_517), hts _ (List.mem_cons_of_mem _ ps_CR_becomeClosed)⟩
def g_CR_owesAny (f : Nat → Int32) (w : Nat → Int32) : Int32 :=
  if (f 12) = 0 then (if (f 13) = 0 then (if (f 14) = 0 then (0) else (1)) else (1)) else (1)
set_option maxHeartbeats 4000000 in
set_option maxRecDepth 100000 in
theorem c_CR_owesAny (l : Launch) {D : va_G} {ad : Nat → Nat} {cA : Nat → ClassId} {st : Nat → Nat} (hi : fl_inj ad 88) {q : Nat} (hq : is_CR q) (M : fl_M) (f : Nat → Int32) (w : Nat → Int32) : Met l y_CR_owesAny w_CR_owesAny ({ frames := 0, cells := 0, slots := 0, locals := 0 } : Room) (va_Pc [.ref (ad q)] (fl_B D cls (xt cA) (xSL st) xFN xMN ad (xc ad cA) 88 (pCR M q f w))) (va_Qi (fun r M' => r = (g_CR_owesAny f w) ∧ M' = (pCR M q f w)) (fl_E D cls ad (xc ad cA) 88) (fl_A ad 88)) 0 0 (fl_A ad 88) := by
  refine Met.ofW (cc := b_CR_owesAny) (maxL := 1) (ret := (some .boolean)) (by decide) rfl ?_
  intro p e s m args below meth c s₁ B hml hv
  obtain ⟨rfl, hP, hK, hSt, hN⟩ := hv
  have hx := B.exec
  have hb := B.bytes
  have hr := B.returns
  have hts := atoms_spec (ws := w_CR_owesAny) B.pre
  have hown : s.vm.findClass "FarLink$CraftRecord" = some m.cls := findClass_of_methodNamed B.named
  have hlocks := B.notSynchronized
  have hS : va_S (fl_A ad 88) s.heap s.heap [] := va_S.rf
  have hl := lv_entry ([.ref (ad q)]) (n := 1) (Nat.le_of_ble_eq_true rfl)
  rw [lg_entry_eq]
  generalize (lg_sl ([.ref (ad q)]) ++ List.replicate (1 - (lg_sl ([.ref (ad q)])).length) Slot.unset).toArray = ls at hl ⊢
  have hl : lv_has ls 1 [(0, .ref (ad q))] := hl
  have hG := g_CR_owesAny.eq_1 f w
  refine lv_aload_n hx hb d_CR_owesAny_0 rfl (lv_at hl 0 rfl) ?_
  refine gt_CR (k := 12) (v := .int (f 12)) hx hb hts hown hK hP hq (hts _ (List.mem_cons_of_mem _ tw_233)) (by decide) rfl rfl d_CR_owesAny_1 ?_
  refine lv_if_ne (tgt := 21) hx hb d_CR_owesAny_4 (by decide) (fun h_1 => ?_) (fun h_1 => ?_)
  ·
    have hG := hG.trans (if_neg h_1)
    refine lv_iconst (v := 1) hx hb d_CR_owesAny_21 (by decide) ?_
    refine lv_goto (tgt := 26) hx hb d_CR_owesAny_22 (by decide) ?_
    exact fl_zret hx hb hr hlocks hP hS (rfl) hG.symm rfl d_CR_owesAny_26
  ·
    have hG := hG.trans (if_pos h_1)
    refine lv_aload_n hx hb d_CR_owesAny_7 rfl (lv_at hl 0 rfl) ?_
    refine gt_CR (k := 13) (v := .int (f 13)) hx hb hts hown hK hP hq (hts _ (List.mem_cons_of_mem _ tw_234)) (by decide) rfl rfl d_CR_owesAny_8 ?_
    refine lv_if_ne (tgt := 21) hx hb d_CR_owesAny_11 (by decide) (fun h_2 => ?_) (fun h_2 => ?_)
    ·
      have hG := hG.trans (if_neg h_2)
      refine lv_iconst (v := 1) hx hb d_CR_owesAny_21 (by decide) ?_
      refine lv_goto (tgt := 26) hx hb d_CR_owesAny_22 (by decide) ?_
      exact fl_zret hx hb hr hlocks hP hS (rfl) hG.symm rfl d_CR_owesAny_26
    ·
      have hG := hG.trans (if_pos h_2)
      refine lv_aload_n hx hb d_CR_owesAny_14 rfl (lv_at hl 0 rfl) ?_
      refine gt_CR (k := 14) (v := .int (f 14)) hx hb hts hown hK hP hq (hts _ (List.mem_cons_of_mem _ tw_235)) (by decide) rfl rfl d_CR_owesAny_15 ?_
      refine lv_if_eq (tgt := 25) hx hb d_CR_owesAny_18 (by decide) (fun h_3 => ?_) (fun h_3 => ?_)
      ·
        have hG := hG.trans (if_pos h_3)
        refine lv_iconst (v := 0) hx hb d_CR_owesAny_25 (by decide) ?_
        exact fl_zret hx hb hr hlocks hP hS (rfl) hG.symm rfl d_CR_owesAny_26
      ·
        have hG := hG.trans (if_neg h_3)
        refine lv_iconst (v := 1) hx hb d_CR_owesAny_21 (by decide) ?_
        refine lv_goto (tgt := 26) hx hb d_CR_owesAny_22 (by decide) ?_
        exact fl_zret hx hb hr hlocks hP hS (rfl) hG.symm rfl d_CR_owesAny_26
theorem z_CR_owesAny (f : Nat → Int32) (w : Nat → Int32) : g_CR_owesAny f w &&& 1 = g_CR_owesAny f w := by
  unfold g_CR_owesAny
  repeat (first | split | (show (0 : Int32) &&& 1 = 0; rfl) | (show (1 : Int32) &&& 1 = 1; rfl) | rfl)
theorem hd_CR_owesAny : y_CR_owesAny.cls ≠ "java/lang/invoke/MethodHandle" ∧ y_CR_owesAny.cls ≠ "java/lang/invoke/VarHandle" ∧ (parseMethodDescriptor y_CR_owesAny.desc).map (fun d => d.parameters.length) = some 0 := by decide +kernel
theorem kv_CR_owesAny {R : Room} {s : State} {args : Array Value} {c0 : Cond} {own : String} {index : Nat} (hts : ∀ w ∈ c0 :: gw, w.before args s = true) (hl : (Cond.methodLink own index y_CR_owesAny).before args s = true) (hR : 0 + 1 ≤ R.frames ∧ 8 + (1 + 11) + 0 ≤ R.locals) : CallW R s args own "FarLink$CraftRecord" index y_CR_owesAny b_CR_owesAny 1 (some .boolean) w_CR_owesAny ({ frames := 0, cells := 0, slots := 0, locals := 0 } : Room) 0 0 0 := ⟨callB_of 0 hts (gw_in tw_546) rfl rfl rfl (hts _ (List.mem_cons_of_mem _ tw_9)) hl hd_CR_owesAny hR, hts _ (List.mem_cons_of_mem _ tw_544), hts _ (List.mem_cons_of_mem _ tw_545)⟩
def g_CR_result (f : Nat → Int32) (w : Nat → Int32) : Int32 :=
  if (f 2) = 1 then (0) else (if (f 2) = 2 then (f 3) else (if (f 2) = 3 then (8 + (f 3)) else ((-1))))
set_option maxHeartbeats 4000000 in
set_option maxRecDepth 100000 in
theorem c_CR_result (l : Launch) {D : va_G} {ad : Nat → Nat} {cA : Nat → ClassId} {st : Nat → Nat} (hi : fl_inj ad 88) {q : Nat} (hq : is_CR q) (M : fl_M) (f : Nat → Int32) (w : Nat → Int32) : Met l y_CR_result w_CR_result ({ frames := 0, cells := 0, slots := 0, locals := 0 } : Room) (va_Pc [.ref (ad q)] (fl_B D cls (xt cA) (xSL st) xFN xMN ad (xc ad cA) 88 (pCR M q f w))) (va_Qi (fun r M' => r = (g_CR_result f w) ∧ M' = (pCR M q f w)) (fl_E D cls ad (xc ad cA) 88) (fl_A ad 88)) 0 0 (fl_A ad 88) := by
  refine Met.ofW (cc := b_CR_result) (maxL := 1) (ret := (some .int)) (by decide) rfl ?_
  intro p e s m args below meth c s₁ B hml hv
  obtain ⟨rfl, hP, hK, hSt, hN⟩ := hv
  have hx := B.exec
  have hb := B.bytes
  have hr := B.returns
  have hts := atoms_spec (ws := w_CR_result) B.pre
  have hown : s.vm.findClass "FarLink$CraftRecord" = some m.cls := findClass_of_methodNamed B.named
  have hlocks := B.notSynchronized
  have hS : va_S (fl_A ad 88) s.heap s.heap [] := va_S.rf
  have hl := lv_entry ([.ref (ad q)]) (n := 1) (Nat.le_of_ble_eq_true rfl)
  rw [lg_entry_eq]
  generalize (lg_sl ([.ref (ad q)]) ++ List.replicate (1 - (lg_sl ([.ref (ad q)])).length) Slot.unset).toArray = ls at hl ⊢
  have hl : lv_has ls 1 [(0, .ref (ad q))] := hl
  have hG := g_CR_result.eq_1 f w
  refine lv_aload_n hx hb d_CR_result_0 rfl (lv_at hl 0 rfl) ?_
  refine gt_CR (k := 2) (v := .int (f 2)) hx hb hts hown hK hP hq (hts _ (List.mem_cons_of_mem _ tw_219)) (by decide) rfl rfl d_CR_result_1 ?_
  by_cases h_1 : (f 2) = 1
  ·
    have hG := hG.trans (if_pos h_1)
    refine lv_tableIn (tgt := 32) (off := 28) hx hb d_CR_result_4 (by rw [h_1]; decide) (by rw [h_1]; decide) (by rw [h_1]; decide) (by decide) ?_
    refine lv_iconst (v := 0) hx hb d_CR_result_32 (by decide) ?_
    exact fl_iret hx hb hr hlocks hP hS hG.symm rfl d_CR_result_33
  ·
    have hG := hG.trans (if_neg h_1)
    by_cases h_2 : (f 2) = 2
    ·
      have hG := hG.trans (if_pos h_2)
      refine lv_tableIn (tgt := 34) (off := 30) hx hb d_CR_result_4 (by rw [h_2]; decide) (by rw [h_2]; decide) (by rw [h_2]; decide) (by decide) ?_
      refine lv_aload_n hx hb d_CR_result_34 rfl (lv_at hl 0 rfl) ?_
      refine gt_CR (k := 3) (v := .int (f 3)) hx hb hts hown hK hP hq (hts _ (List.mem_cons_of_mem _ tw_222)) (by decide) rfl rfl d_CR_result_35 ?_
      exact fl_iret hx hb hr hlocks hP hS hG.symm rfl d_CR_result_38
    ·
      have hG := hG.trans (if_neg h_2)
      by_cases h_3 : (f 2) = 3
      ·
        have hG := hG.trans (if_pos h_3)
        refine lv_tableIn (tgt := 39) (off := 35) hx hb d_CR_result_4 (by rw [h_3]; decide) (by rw [h_3]; decide) (by rw [h_3]; decide) (by decide) ?_
        refine lv_bipush (v := 8) hx hb d_CR_result_39 (by decide) ?_
        refine lv_aload_n hx hb d_CR_result_41 rfl (lv_at hl 0 rfl) ?_
        refine gt_CR (k := 3) (v := .int (f 3)) hx hb hts hown hK hP hq (hts _ (List.mem_cons_of_mem _ tw_222)) (by decide) rfl rfl d_CR_result_42 ?_
        refine lv_iadd hx hb d_CR_result_45 ?_
        exact fl_iret hx hb hr hlocks hP hS hG.symm rfl d_CR_result_46
      ·
        have hG := hG.trans (if_neg h_3)
        refine lv_tableOut (tgt := 47) hx hb d_CR_result_4 (by have := lv_neT (a := 1) h_1 (by decide); have := lv_neT (a := 2) h_2 (by decide); have := lv_neT (a := 3) h_3 (by decide); omega) (by decide) ?_
        refine lv_iconst (v := -1) hx hb d_CR_result_47 (by decide) ?_
        exact fl_iret hx hb hr hlocks hP hS hG.symm rfl d_CR_result_48
theorem hd_CR_result : y_CR_result.cls ≠ "java/lang/invoke/MethodHandle" ∧ y_CR_result.cls ≠ "java/lang/invoke/VarHandle" ∧ (parseMethodDescriptor y_CR_result.desc).map (fun d => d.parameters.length) = some 0 := by decide +kernel
theorem kv_CR_result {R : Room} {s : State} {args : Array Value} {c0 : Cond} {own : String} {index : Nat} (hts : ∀ w ∈ c0 :: gw, w.before args s = true) (hl : (Cond.methodLink own index y_CR_result).before args s = true) (hR : 0 + 1 ≤ R.frames ∧ 8 + (1 + 11) + 0 ≤ R.locals) : CallW R s args own "FarLink$CraftRecord" index y_CR_result b_CR_result 1 (some .int) w_CR_result ({ frames := 0, cells := 0, slots := 0, locals := 0 } : Room) 0 0 0 := ⟨callB_of 0 hts (gw_in tw_697) rfl rfl rfl (hts _ (List.mem_cons_of_mem _ tw_9)) hl hd_CR_result hR, hts _ (List.mem_cons_of_mem _ tw_695), hts _ (List.mem_cons_of_mem _ tw_696)⟩
def g_CR_lackingParts (f : Nat → Int32) (w : Nat → Int32) : Int32 :=
  (g_CR_missingParts f w) &&& (196608 ||| (g_FL_wordsBelow (f 7)))
set_option maxHeartbeats 4000000 in
set_option maxRecDepth 100000 in
theorem c_CR_lackingParts (l : Launch) {D : va_G} {ad : Nat → Nat} {cA : Nat → ClassId} {st : Nat → Nat} (hi : fl_inj ad 88) {q : Nat} (hq : is_CR q) (M : fl_M) (f : Nat → Int32) (w : Nat → Int32) : Met l y_CR_lackingParts w_CR_lackingParts ({ frames := 1, cells := 0, slots := 0, locals := 20 } : Room) (va_Pc [.ref (ad q)] (fl_B D cls (xt cA) (xSL st) xFN xMN ad (xc ad cA) 88 (pCR M q f w))) (va_Qi (fun r M' => r = (g_CR_lackingParts f w) ∧ M' = (pCR M q f w)) (fl_E D cls ad (xc ad cA) 88) (fl_A ad 88)) 0 0 (fl_A ad 88) := by
  refine Met.ofW (cc := b_CR_lackingParts) (maxL := 1) (ret := (some .int)) (by decide) rfl ?_
  intro p e s m args below meth c s₁ B hml hv
  obtain ⟨rfl, hP, hK, hSt, hN⟩ := hv
  have hx := B.exec
  have hb := B.bytes
  have hr := B.returns
  have hts := atoms_spec (ws := w_CR_lackingParts) B.pre
  have hown : s.vm.findClass "FarLink$CraftRecord" = some m.cls := findClass_of_methodNamed B.named
  have hlocks := B.notSynchronized
  have hS : va_S (fl_A ad 88) s.heap s.heap [] := va_S.rf
  have hl := lv_entry ([.ref (ad q)]) (n := 1) (Nat.le_of_ble_eq_true rfl)
  rw [lg_entry_eq]
  generalize (lg_sl ([.ref (ad q)]) ++ List.replicate (1 - (lg_sl ([.ref (ad q)])).length) Slot.unset).toArray = ls at hl ⊢
  have hl : lv_has ls 1 [(0, .ref (ad q))] := hl
  have hG := g_CR_lackingParts.eq_1 f w
  refine lv_aload_n hx hb d_CR_lackingParts_0 rfl (lv_at hl 0 rfl) ?_
  refine fl_calli (va_runV (As := []) (rest := []) ⟨hx, hb, hml, hown, hts⟩ (c_CR_missingParts l hi hq M f w) (kv_CR_missingParts hts (hts _ (List.mem_cons_of_mem _ tw_501)) ⟨Nat.le_of_ble_eq_true rfl, Nat.le_of_ble_eq_true rfl⟩) (fl_preV hK hSt hN hS hP (lt_CR hq) (kc_CR hq) rfl) rfl rfl hl.1 rfl (lv_room (Nat.le_of_ble_eq_true rfl)) d_CR_lackingParts_1 ⟨Nat.zero_le _, Nat.zero_le _⟩) hS (fun H locs hP hS => ?_)
  refine lv_ldc (v := 196608) hx hb hown (hts _ (List.mem_cons_of_mem _ tw_506)) d_CR_lackingParts_4 ?_
  refine lv_aload_n hx hb d_CR_lackingParts_6 rfl (lv_at hl 0 rfl) ?_
  refine gt_CR (k := 7) (v := .int (f 7)) hx hb hts hown hK hP hq (hts _ (List.mem_cons_of_mem _ tw_228)) (by decide) rfl rfl d_CR_lackingParts_7 ?_
  refine fl_calli (va_runSN (As := [.int (f 7)]) (rest := [.int 196608, .int (g_CR_missingParts f w)]) ⟨hx, hb, hml, hown, hts⟩ (c_FL_wordsBelow l hi (pCR M q f w) (f 7)) (kn_FL_wordsBelow hts (hN.m 7 rfl) ⟨Nat.le_of_ble_eq_true rfl, Nat.le_of_ble_eq_true rfl⟩) (fl_preS hK hSt hN hS hP) rfl rfl hl.1 rfl (lv_room (Nat.le_of_ble_eq_true rfl)) d_CR_lackingParts_10 ⟨Nat.zero_le _, Nat.zero_le _⟩) hS (fun H locs hP hS => ?_)
  refine lv_ior hx hb d_CR_lackingParts_13 ?_
  refine lv_iand hx hb d_CR_lackingParts_14 ?_
  exact fl_iret hx hb hr hlocks hP hS hG.symm rfl d_CR_lackingParts_15
theorem hd_CR_lackingParts : y_CR_lackingParts.cls ≠ "java/lang/invoke/MethodHandle" ∧ y_CR_lackingParts.cls ≠ "java/lang/invoke/VarHandle" ∧ (parseMethodDescriptor y_CR_lackingParts.desc).map (fun d => d.parameters.length) = some 0 := by decide +kernel
theorem kv_CR_lackingParts {R : Room} {s : State} {args : Array Value} {c0 : Cond} {own : String} {index : Nat} (hts : ∀ w ∈ c0 :: gw, w.before args s = true) (hl : (Cond.methodLink own index y_CR_lackingParts).before args s = true) (hR : 1 + 1 ≤ R.frames ∧ 8 + (1 + 11) + 20 ≤ R.locals) : CallW R s args own "FarLink$CraftRecord" index y_CR_lackingParts b_CR_lackingParts 1 (some .int) w_CR_lackingParts ({ frames := 1, cells := 0, slots := 0, locals := 20 } : Room) 0 0 0 := ⟨callB_of 0 hts (gw_in tw_500) rfl rfl rfl (hts _ (List.mem_cons_of_mem _ tw_9)) hl hd_CR_lackingParts hR, hts _ (List.mem_cons_of_mem _ tw_499), hts _ (List.mem_cons_of_mem _ ps_CR_lackingParts)⟩
def g_CR_endWith (f : Nat → Int32) (w : Nat → Int32) (x1 : Int32) : (Nat → Int32) × (Nat → Int32) :=
  (((g_CR_tellFinished (upd (upd (upd (upd f 2 2) 3 x1) 11 1) 13 0) w).1), ((g_CR_tellFinished (upd (upd (upd (upd f 2 2) 3 x1) 11 1) 13 0) w).2))
set_option maxHeartbeats 4000000 in
set_option maxRecDepth 100000 in
theorem c_CR_endWith (l : Launch) {D : va_G} {ad : Nat → Nat} {cA : Nat → ClassId} {st : Nat → Nat} (hi : fl_inj ad 88) {q : Nat} (hq : is_CR q) (M : fl_M) (f : Nat → Int32) (w : Nat → Int32) (x1 : Int32) : Met l y_CR_endWith w_CR_endWith ({ frames := 1, cells := 0, slots := 0, locals := 20 } : Room) (va_Pc [.ref (ad q), .int x1] (fl_B D cls (xt cA) (xSL st) xFN xMN ad (xc ad cA) 88 (pCR M q f w))) (va_Qv (fun M' => M' = (pCR M q ((g_CR_endWith f w x1).1) ((g_CR_endWith f w x1).2))) (fl_E D cls ad (xc ad cA) 88) (fl_A ad 88)) 0 0 (fl_A ad 88) := by
  refine Met.ofW (cc := b_CR_endWith) (maxL := 2) (ret := none) (by decide) rfl ?_
  intro p e s m args below meth c s₁ B hml hv
  obtain ⟨rfl, hP, hK, hSt, hN⟩ := hv
  have hx := B.exec
  have hb := B.bytes
  have hr := B.returns
  have hts := atoms_spec (ws := w_CR_endWith) B.pre
  have hown : s.vm.findClass "FarLink$CraftRecord" = some m.cls := findClass_of_methodNamed B.named
  have hlocks := B.notSynchronized
  have hS : va_S (fl_A ad 88) s.heap s.heap [] := va_S.rf
  have hl := lv_entry ([.ref (ad q), .int x1]) (n := 2) (Nat.le_of_ble_eq_true rfl)
  rw [lg_entry_eq]
  generalize (lg_sl ([.ref (ad q), .int x1]) ++ List.replicate (2 - (lg_sl ([.ref (ad q), .int x1])).length) Slot.unset).toArray = ls at hl ⊢
  have hl : lv_has ls 2 [(0, .ref (ad q)), (1, .int x1)] := hl
  have hG := g_CR_endWith.eq_1 f w x1
  refine lv_aload_n hx hb d_CR_endWith_0 rfl (lv_at hl 0 rfl) ?_
  refine lv_iconst (v := 2) hx hb d_CR_endWith_1 (by decide) ?_
  refine pt_CR (k := 2) hx hb hts hown hK hi hP hS hq (hts _ (List.mem_cons_of_mem _ tw_219)) (by decide) rfl rfl rfl rfl (Nat.le_of_ble_eq_true rfl) rfl d_CR_endWith_2 (fun H locs hP hS => ?_)
  refine lv_aload_n hx hb d_CR_endWith_5 rfl (lv_at hl 0 rfl) ?_
  refine lv_iload_n hx hb d_CR_endWith_6 rfl (lv_at hl 1 rfl) ?_
  refine pt_CR (k := 3) hx hb hts hown hK hi hP hS hq (hts _ (List.mem_cons_of_mem _ tw_222)) (by decide) rfl rfl rfl rfl (Nat.le_of_ble_eq_true rfl) rfl d_CR_endWith_7 (fun H locs hP hS => ?_)
  refine lv_aload_n hx hb d_CR_endWith_10 rfl (lv_at hl 0 rfl) ?_
  refine lv_iconst (v := 1) hx hb d_CR_endWith_11 (by decide) ?_
  refine pt_CR (k := 11) hx hb hts hown hK hi hP hS hq (hts _ (List.mem_cons_of_mem _ tw_232)) (by decide) rfl rfl rfl rfl (Nat.le_of_ble_eq_true rfl) rfl d_CR_endWith_12 (fun H locs hP hS => ?_)
  refine lv_aload_n hx hb d_CR_endWith_15 rfl (lv_at hl 0 rfl) ?_
  refine lv_iconst (v := 0) hx hb d_CR_endWith_16 (by decide) ?_
  refine pt_CR (k := 13) hx hb hts hown hK hi hP hS hq (hts _ (List.mem_cons_of_mem _ tw_234)) (by decide) rfl rfl (rfl) (rfl) (Nat.le_of_ble_eq_true rfl) rfl d_CR_endWith_17 (fun H locs hP hS => ?_)
  refine lv_aload_n hx hb d_CR_endWith_20 rfl (lv_at hl 0 rfl) ?_
  refine fl_callv (va_runV (As := []) (rest := []) ⟨hx, hb, hml, hown, hts⟩ (c_CR_tellFinished l hi hq M (upd (upd (upd (upd f 2 2) 3 x1) 11 1) 13 0) w) (kv_CR_tellFinished hts (hts _ (List.mem_cons_of_mem _ tw_474)) ⟨Nat.le_of_ble_eq_true rfl, Nat.le_of_ble_eq_true rfl⟩) (fl_preV hK hSt hN hS hP (lt_CR hq) (kc_CR hq) rfl) rfl rfl hl.1 rfl (lv_room (Nat.le_of_ble_eq_true rfl)) d_CR_endWith_21 ⟨Nat.zero_le _, Nat.zero_le _⟩) hS (fun H locs hP hS => ?_)
  exact fl_vret hx hb hr hlocks hP hS (by rw [hG]) d_CR_endWith_24
theorem hd_CR_endWith : y_CR_endWith.cls ≠ "java/lang/invoke/MethodHandle" ∧ y_CR_endWith.cls ≠ "java/lang/invoke/VarHandle" ∧ (parseMethodDescriptor y_CR_endWith.desc).map (fun d => d.parameters.length) = some 1 := by decide +kernel
theorem kv_CR_endWith {R : Room} {s : State} {args : Array Value} {c0 : Cond} {own : String} {index : Nat} (hts : ∀ w ∈ c0 :: gw, w.before args s = true) (hl : (Cond.methodLink own index y_CR_endWith).before args s = true) (hR : 1 + 1 ≤ R.frames ∧ 8 + (2 + 11) + 20 ≤ R.locals) : CallW R s args own "FarLink$CraftRecord" index y_CR_endWith b_CR_endWith 2 none w_CR_endWith ({ frames := 1, cells := 0, slots := 0, locals := 20 } : Room) 0 0 1 := ⟨callB_of 1 hts (gw_in tw_473) rfl rfl rfl (hts _ (List.mem_cons_of_mem _ tw_9)) hl hd_CR_endWith hR, hts _ (List.mem_cons_of_mem _ tw_472), hts _ (List.mem_cons_of_mem _ ps_CR_endWith)⟩
def g_CR_takeMetadata (f : Nat → Int32) (w : Nat → Int32) (x1 : Int32) (x2 : Int32) : Int32 × (Nat → Int32) × (Nat → Int32) :=
  if (g_CR_has f w 65536) = 0 then (if 16 < x1 then ((0, f, w)) else (if (g_FL_isBelow x2 4) = 0 then ((0, f, w)) else ((1, (upd (upd (upd (upd f 4 ((f 4) ||| 65536)) 5 x1) 6 x2) 11 1), w)))) else ((0, f, w))
set_option maxHeartbeats 4000000 in
set_option maxRecDepth 100000 in
theorem c_CR_takeMetadata (l : Launch) {D : va_G} {ad : Nat → Nat} {cA : Nat → ClassId} {st : Nat → Nat} (hi : fl_inj ad 88) {q : Nat} (hq : is_CR q) (M : fl_M) (f : Nat → Int32) (w : Nat → Int32) (x1 : Int32) (x2 : Int32) : Met l y_CR_takeMetadata w_CR_takeMetadata ({ frames := 1, cells := 0, slots := 0, locals := 21 } : Room) (va_Pc [.ref (ad q), .int x1, .int x2] (fl_B D cls (xt cA) (xSL st) xFN xMN ad (xc ad cA) 88 (pCR M q f w))) (va_Qi (fun r M' => r = (g_CR_takeMetadata f w x1 x2).1 ∧ M' = (pCR M q ((g_CR_takeMetadata f w x1 x2).2.1) ((g_CR_takeMetadata f w x1 x2).2.2))) (fl_E D cls ad (xc ad cA) 88) (fl_A ad 88)) 0 0 (fl_A ad 88) := by
  refine Met.ofW (cc := b_CR_takeMetadata) (maxL := 3) (ret := (some .boolean)) (by decide) rfl ?_
  intro p e s m args below meth c s₁ B hml hv
  obtain ⟨rfl, hP, hK, hSt, hN⟩ := hv
  have hx := B.exec
  have hb := B.bytes
  have hr := B.returns
  have hts := atoms_spec (ws := w_CR_takeMetadata) B.pre
  have hown : s.vm.findClass "FarLink$CraftRecord" = some m.cls := findClass_of_methodNamed B.named
  have hlocks := B.notSynchronized
  have hS : va_S (fl_A ad 88) s.heap s.heap [] := va_S.rf
  have hl := lv_entry ([.ref (ad q), .int x1, .int x2]) (n := 3) (Nat.le_of_ble_eq_true rfl)
  rw [lg_entry_eq]
  generalize (lg_sl ([.ref (ad q), .int x1, .int x2]) ++ List.replicate (3 - (lg_sl ([.ref (ad q), .int x1, .int x2])).length) Slot.unset).toArray = ls at hl ⊢
  have hl : lv_has ls 3 [(0, .ref (ad q)), (1, .int x1), (2, .int x2)] := hl
  have hG := g_CR_takeMetadata.eq_1 f w x1 x2
  refine lv_aload_n hx hb d_CR_takeMetadata_0 rfl (lv_at hl 0 rfl) ?_
  refine lv_ldc (v := 65536) hx hb hown (hts _ (List.mem_cons_of_mem _ tw_482)) d_CR_takeMetadata_1 ?_
  refine fl_calli (va_runV (As := [.int 65536]) (rest := []) ⟨hx, hb, hml, hown, hts⟩ (c_CR_has l hi hq M f w 65536) (kv_CR_has hts (hts _ (List.mem_cons_of_mem _ tw_483)) ⟨Nat.le_of_ble_eq_true rfl, Nat.le_of_ble_eq_true rfl⟩) (fl_preV hK hSt hN hS hP (lt_CR hq) (kc_CR hq) rfl) rfl rfl hl.1 rfl (lv_room (Nat.le_of_ble_eq_true rfl)) d_CR_takeMetadata_3 ⟨Nat.zero_le _, Nat.zero_le _⟩) hS (fun H locs hP hS => ?_)
  refine lv_if_ne (tgt := 23) hx hb d_CR_takeMetadata_6 (by decide) (fun h_1 => ?_) (fun h_1 => ?_)
  ·
    have hG := hG.trans (if_neg h_1)
    refine lv_iconst (v := 0) hx hb d_CR_takeMetadata_23 (by decide) ?_
    exact fl_zret hx hb hr hlocks hP hS (rfl) (congrArg Prod.fst hG).symm (by rw [hG]) d_CR_takeMetadata_24
  ·
    have hG := hG.trans (if_pos h_1)
    refine lv_iload_n hx hb d_CR_takeMetadata_9 rfl (lv_at hl 1 rfl) ?_
    refine lv_bipush (v := 16) hx hb d_CR_takeMetadata_10 (by decide) ?_
    refine lv_icmp_gt (tgt := 23) hx hb d_CR_takeMetadata_12 (by decide) (fun h_2 => ?_) (fun h_2 => ?_)
    ·
      have hG := hG.trans (if_pos h_2)
      refine lv_iconst (v := 0) hx hb d_CR_takeMetadata_23 (by decide) ?_
      exact fl_zret hx hb hr hlocks hP hS (rfl) (congrArg Prod.fst hG).symm (by rw [hG]) d_CR_takeMetadata_24
    ·
      have hG := hG.trans (if_neg h_2)
      refine lv_iload_n hx hb d_CR_takeMetadata_15 rfl (lv_at hl 2 rfl) ?_
      refine lv_iconst (v := 4) hx hb d_CR_takeMetadata_16 (by decide) ?_
      refine fl_calli (va_runSN (As := [.int x2, .int 4]) (rest := []) ⟨hx, hb, hml, hown, hts⟩ (c_FL_isBelow l hi (pCR M q f w) x2 4) (kn_FL_isBelow hts (hN.m 6 rfl) ⟨Nat.le_of_ble_eq_true rfl, Nat.le_of_ble_eq_true rfl⟩) (fl_preS hK hSt hN hS hP) rfl rfl hl.1 rfl (lv_room (Nat.le_of_ble_eq_true rfl)) d_CR_takeMetadata_17 ⟨Nat.zero_le _, Nat.zero_le _⟩) hS (fun H locs hP hS => ?_)
      refine lv_if_ne (tgt := 25) hx hb d_CR_takeMetadata_20 (by decide) (fun h_3 => ?_) (fun h_3 => ?_)
      ·
        have hG := hG.trans (if_neg h_3)
        refine lv_aload_n hx hb d_CR_takeMetadata_25 rfl (lv_at hl 0 rfl) ?_
        refine lv_dup hx hb d_CR_takeMetadata_26 rfl ?_
        refine gt_CR (k := 4) (v := .int (f 4)) hx hb hts hown hK hP hq (hts _ (List.mem_cons_of_mem _ tw_223)) (by decide) rfl rfl d_CR_takeMetadata_27 ?_
        refine lv_ldc (v := 65536) hx hb hown (hts _ (List.mem_cons_of_mem _ tw_482)) d_CR_takeMetadata_30 ?_
        refine lv_ior hx hb d_CR_takeMetadata_32 ?_
        refine pt_CR (k := 4) hx hb hts hown hK hi hP hS hq (hts _ (List.mem_cons_of_mem _ tw_223)) (by decide) rfl rfl rfl rfl (Nat.le_of_ble_eq_true rfl) rfl d_CR_takeMetadata_33 (fun H locs hP hS => ?_)
        refine lv_aload_n hx hb d_CR_takeMetadata_36 rfl (lv_at hl 0 rfl) ?_
        refine lv_iload_n hx hb d_CR_takeMetadata_37 rfl (lv_at hl 1 rfl) ?_
        refine pt_CR (k := 5) hx hb hts hown hK hi hP hS hq (hts _ (List.mem_cons_of_mem _ tw_224)) (by decide) rfl rfl rfl rfl (Nat.le_of_ble_eq_true rfl) rfl d_CR_takeMetadata_38 (fun H locs hP hS => ?_)
        refine lv_aload_n hx hb d_CR_takeMetadata_41 rfl (lv_at hl 0 rfl) ?_
        refine lv_iload_n hx hb d_CR_takeMetadata_42 rfl (lv_at hl 2 rfl) ?_
        refine pt_CR (k := 6) hx hb hts hown hK hi hP hS hq (hts _ (List.mem_cons_of_mem _ tw_226)) (by decide) rfl rfl rfl rfl (Nat.le_of_ble_eq_true rfl) rfl d_CR_takeMetadata_43 (fun H locs hP hS => ?_)
        refine lv_aload_n hx hb d_CR_takeMetadata_46 rfl (lv_at hl 0 rfl) ?_
        refine lv_iconst (v := 1) hx hb d_CR_takeMetadata_47 (by decide) ?_
        refine pt_CR (k := 11) hx hb hts hown hK hi hP hS hq (hts _ (List.mem_cons_of_mem _ tw_232)) (by decide) rfl rfl rfl rfl (Nat.le_of_ble_eq_true rfl) rfl d_CR_takeMetadata_48 (fun H locs hP hS => ?_)
        refine lv_iconst (v := 1) hx hb d_CR_takeMetadata_51 (by decide) ?_
        exact fl_zret hx hb hr hlocks hP hS (rfl) (congrArg Prod.fst hG).symm (by rw [hG]) d_CR_takeMetadata_52
      ·
        have hG := hG.trans (if_pos h_3)
        refine lv_iconst (v := 0) hx hb d_CR_takeMetadata_23 (by decide) ?_
        exact fl_zret hx hb hr hlocks hP hS (rfl) (congrArg Prod.fst hG).symm (by rw [hG]) d_CR_takeMetadata_24
theorem z_CR_takeMetadata (f : Nat → Int32) (w : Nat → Int32) (x1 : Int32) (x2 : Int32) : (g_CR_takeMetadata f w x1 x2).1 &&& 1 = (g_CR_takeMetadata f w x1 x2).1 := by
  unfold g_CR_takeMetadata
  repeat (first | split | with_reducible exact z_CR_has .. | with_reducible exact z_FL_isBelow .. | (show (0 : Int32) &&& 1 = 0; rfl) | (show (1 : Int32) &&& 1 = 1; rfl) | rfl)
theorem hd_CR_takeMetadata : y_CR_takeMetadata.cls ≠ "java/lang/invoke/MethodHandle" ∧ y_CR_takeMetadata.cls ≠ "java/lang/invoke/VarHandle" ∧ (parseMethodDescriptor y_CR_takeMetadata.desc).map (fun d => d.parameters.length) = some 2 := by decide +kernel
theorem kv_CR_takeMetadata {R : Room} {s : State} {args : Array Value} {c0 : Cond} {own : String} {index : Nat} (hts : ∀ w ∈ c0 :: gw, w.before args s = true) (hl : (Cond.methodLink own index y_CR_takeMetadata).before args s = true) (hR : 1 + 1 ≤ R.frames ∧ 8 + (3 + 11) + 21 ≤ R.locals) : CallW R s args own "FarLink$CraftRecord" index y_CR_takeMetadata b_CR_takeMetadata 3 (some .boolean) w_CR_takeMetadata ({ frames := 1, cells := 0, slots := 0, locals := 21 } : Room) 0 0 2 := ⟨callB_of 2 hts (gw_in tw_481) rfl rfl rfl (hts _ (List.mem_cons_of_mem _ tw_9)) hl hd_CR_takeMetadata hR, hts _ (List.mem_cons_of_mem _ tw_480), hts _ (List.mem_cons_of_mem _ ps_CR_takeMetadata)⟩
def g_CR_takeEof (f : Nat → Int32) (w : Nat → Int32) (x1 : Int32) (x2 : Int32) : Int32 × (Nat → Int32) × (Nat → Int32) :=
  if (g_CR_has f w 131072) = 0 then (if x1 ≤ 16 then ((1, (upd (upd (upd f 4 ((f 4) ||| 131072)) 7 x1) 8 x2), w)) else ((0, f, w))) else ((0, f, w))
set_option maxHeartbeats 4000000 in
set_option maxRecDepth 100000 in
theorem c_CR_takeEof (l : Launch) {D : va_G} {ad : Nat → Nat} {cA : Nat → ClassId} {st : Nat → Nat} (hi : fl_inj ad 88) {q : Nat} (hq : is_CR q) (M : fl_M) (f : Nat → Int32) (w : Nat → Int32) (x1 : Int32) (x2 : Int32) : Met l y_CR_takeEof w_CR_takeEof ({ frames := 1, cells := 0, slots := 0, locals := 21 } : Room) (va_Pc [.ref (ad q), .int x1, .int x2] (fl_B D cls (xt cA) (xSL st) xFN xMN ad (xc ad cA) 88 (pCR M q f w))) (va_Qi (fun r M' => r = (g_CR_takeEof f w x1 x2).1 ∧ M' = (pCR M q ((g_CR_takeEof f w x1 x2).2.1) ((g_CR_takeEof f w x1 x2).2.2))) (fl_E D cls ad (xc ad cA) 88) (fl_A ad 88)) 0 0 (fl_A ad 88) := by
  refine Met.ofW (cc := b_CR_takeEof) (maxL := 3) (ret := (some .boolean)) (by decide) rfl ?_
  intro p e s m args below meth c s₁ B hml hv
  obtain ⟨rfl, hP, hK, hSt, hN⟩ := hv
  have hx := B.exec
  have hb := B.bytes
  have hr := B.returns
  have hts := atoms_spec (ws := w_CR_takeEof) B.pre
  have hown : s.vm.findClass "FarLink$CraftRecord" = some m.cls := findClass_of_methodNamed B.named
  have hlocks := B.notSynchronized
  have hS : va_S (fl_A ad 88) s.heap s.heap [] := va_S.rf
  have hl := lv_entry ([.ref (ad q), .int x1, .int x2]) (n := 3) (Nat.le_of_ble_eq_true rfl)
  rw [lg_entry_eq]
  generalize (lg_sl ([.ref (ad q), .int x1, .int x2]) ++ List.replicate (3 - (lg_sl ([.ref (ad q), .int x1, .int x2])).length) Slot.unset).toArray = ls at hl ⊢
  have hl : lv_has ls 3 [(0, .ref (ad q)), (1, .int x1), (2, .int x2)] := hl
  have hG := g_CR_takeEof.eq_1 f w x1 x2
  refine lv_aload_n hx hb d_CR_takeEof_0 rfl (lv_at hl 0 rfl) ?_
  refine lv_ldc (v := 131072) hx hb hown (hts _ (List.mem_cons_of_mem _ tw_496)) d_CR_takeEof_1 ?_
  refine fl_calli (va_runV (As := [.int 131072]) (rest := []) ⟨hx, hb, hml, hown, hts⟩ (c_CR_has l hi hq M f w 131072) (kv_CR_has hts (hts _ (List.mem_cons_of_mem _ tw_483)) ⟨Nat.le_of_ble_eq_true rfl, Nat.le_of_ble_eq_true rfl⟩) (fl_preV hK hSt hN hS hP (lt_CR hq) (kc_CR hq) rfl) rfl rfl hl.1 rfl (lv_room (Nat.le_of_ble_eq_true rfl)) d_CR_takeEof_3 ⟨Nat.zero_le _, Nat.zero_le _⟩) hS (fun H locs hP hS => ?_)
  refine lv_if_ne (tgt := 15) hx hb d_CR_takeEof_6 (by decide) (fun h_1 => ?_) (fun h_1 => ?_)
  ·
    have hG := hG.trans (if_neg h_1)
    refine lv_iconst (v := 0) hx hb d_CR_takeEof_15 (by decide) ?_
    exact fl_zret hx hb hr hlocks hP hS (rfl) (congrArg Prod.fst hG).symm (by rw [hG]) d_CR_takeEof_16
  ·
    have hG := hG.trans (if_pos h_1)
    refine lv_iload_n hx hb d_CR_takeEof_9 rfl (lv_at hl 1 rfl) ?_
    refine lv_bipush (v := 16) hx hb d_CR_takeEof_10 (by decide) ?_
    refine lv_icmp_le (tgt := 17) hx hb d_CR_takeEof_12 (by decide) (fun h_2 => ?_) (fun h_2 => ?_)
    ·
      have hG := hG.trans (if_pos h_2)
      refine lv_aload_n hx hb d_CR_takeEof_17 rfl (lv_at hl 0 rfl) ?_
      refine lv_dup hx hb d_CR_takeEof_18 rfl ?_
      refine gt_CR (k := 4) (v := .int (f 4)) hx hb hts hown hK hP hq (hts _ (List.mem_cons_of_mem _ tw_223)) (by decide) rfl rfl d_CR_takeEof_19 ?_
      refine lv_ldc (v := 131072) hx hb hown (hts _ (List.mem_cons_of_mem _ tw_496)) d_CR_takeEof_22 ?_
      refine lv_ior hx hb d_CR_takeEof_24 ?_
      refine pt_CR (k := 4) hx hb hts hown hK hi hP hS hq (hts _ (List.mem_cons_of_mem _ tw_223)) (by decide) rfl rfl rfl rfl (Nat.le_of_ble_eq_true rfl) rfl d_CR_takeEof_25 (fun H locs hP hS => ?_)
      refine lv_aload_n hx hb d_CR_takeEof_28 rfl (lv_at hl 0 rfl) ?_
      refine lv_iload_n hx hb d_CR_takeEof_29 rfl (lv_at hl 1 rfl) ?_
      refine pt_CR (k := 7) hx hb hts hown hK hi hP hS hq (hts _ (List.mem_cons_of_mem _ tw_228)) (by decide) rfl rfl rfl rfl (Nat.le_of_ble_eq_true rfl) rfl d_CR_takeEof_30 (fun H locs hP hS => ?_)
      refine lv_aload_n hx hb d_CR_takeEof_33 rfl (lv_at hl 0 rfl) ?_
      refine lv_iload_n hx hb d_CR_takeEof_34 rfl (lv_at hl 2 rfl) ?_
      refine pt_CR (k := 8) hx hb hts hown hK hi hP hS hq (hts _ (List.mem_cons_of_mem _ tw_229)) (by decide) rfl rfl rfl rfl (Nat.le_of_ble_eq_true rfl) rfl d_CR_takeEof_35 (fun H locs hP hS => ?_)
      refine lv_iconst (v := 1) hx hb d_CR_takeEof_38 (by decide) ?_
      exact fl_zret hx hb hr hlocks hP hS (rfl) (congrArg Prod.fst hG).symm (by rw [hG]) d_CR_takeEof_39
    ·
      have hG := hG.trans (if_neg h_2)
      refine lv_iconst (v := 0) hx hb d_CR_takeEof_15 (by decide) ?_
      exact fl_zret hx hb hr hlocks hP hS (rfl) (congrArg Prod.fst hG).symm (by rw [hG]) d_CR_takeEof_16
theorem z_CR_takeEof (f : Nat → Int32) (w : Nat → Int32) (x1 : Int32) (x2 : Int32) : (g_CR_takeEof f w x1 x2).1 &&& 1 = (g_CR_takeEof f w x1 x2).1 := by
  unfold g_CR_takeEof
  repeat (first | split | with_reducible exact z_CR_has .. | (show (0 : Int32) &&& 1 = 0; rfl) | (show (1 : Int32) &&& 1 = 1; rfl) | rfl)
theorem hd_CR_takeEof : y_CR_takeEof.cls ≠ "java/lang/invoke/MethodHandle" ∧ y_CR_takeEof.cls ≠ "java/lang/invoke/VarHandle" ∧ (parseMethodDescriptor y_CR_takeEof.desc).map (fun d => d.parameters.length) = some 2 := by decide +kernel
theorem kv_CR_takeEof {R : Room} {s : State} {args : Array Value} {c0 : Cond} {own : String} {index : Nat} (hts : ∀ w ∈ c0 :: gw, w.before args s = true) (hl : (Cond.methodLink own index y_CR_takeEof).before args s = true) (hR : 1 + 1 ≤ R.frames ∧ 8 + (3 + 11) + 21 ≤ R.locals) : CallW R s args own "FarLink$CraftRecord" index y_CR_takeEof b_CR_takeEof 3 (some .boolean) w_CR_takeEof ({ frames := 1, cells := 0, slots := 0, locals := 21 } : Room) 0 0 2 := ⟨callB_of 2 hts (gw_in tw_495) rfl rfl rfl (hts _ (List.mem_cons_of_mem _ tw_9)) hl hd_CR_takeEof hR, hts _ (List.mem_cons_of_mem _ tw_494), hts _ (List.mem_cons_of_mem _ ps_CR_takeEof)⟩
def g_CR_stepOpen (f : Nat → Int32) (w : Nat → Int32) : (Nat → Int32) × (Nat → Int32) :=
  if ((f 9) - 1) = 0 then ((((g_CR_becomeClosed (upd (upd f 9 ((f 9) - 1)) 3 4) w).1), ((g_CR_becomeClosed (upd (upd f 9 ((f 9) - 1)) 3 4) w).2))) else (if (g_CR_has (upd f 9 ((f 9) - 1)) w 131072) = 0 then (((upd f 9 ((f 9) - 1)), w)) else (if ((f 10) - 1) ≤ 0 then (if (f 11) = 4 then ((((g_CR_endWith (upd (upd f 9 ((f 9) - 1)) 10 ((f 10) - 1)) w 3).1), ((g_CR_endWith (upd (upd f 9 ((f 9) - 1)) 10 ((f 10) - 1)) w 3).2))) else ((((g_CR_askForParts (upd (upd (upd f 9 ((f 9) - 1)) 10 ((f 10) - 1)) 11 ((f 11) + 1)) w).1), ((g_CR_askForParts (upd (upd (upd f 9 ((f 9) - 1)) 10 ((f 10) - 1)) 11 ((f 11) + 1)) w).2)))) else (((upd (upd f 9 ((f 9) - 1)) 10 ((f 10) - 1)), w))))
set_option maxHeartbeats 4000000 in
set_option maxRecDepth 100000 in
theorem c_CR_stepOpen (l : Launch) {D : va_G} {ad : Nat → Nat} {cA : Nat → ClassId} {st : Nat → Nat} (hi : fl_inj ad 88) {q : Nat} (hq : is_CR q) (M : fl_M) (f : Nat → Int32) (w : Nat → Int32) : Met l y_CR_stepOpen w_CR_stepOpen ({ frames := 2, cells := 0, slots := 0, locals := 41 } : Room) (va_Pc [.ref (ad q)] (fl_B D cls (xt cA) (xSL st) xFN xMN ad (xc ad cA) 88 (pCR M q f w))) (va_Qv (fun M' => M' = (pCR M q ((g_CR_stepOpen f w).1) ((g_CR_stepOpen f w).2))) (fl_E D cls ad (xc ad cA) 88) (fl_A ad 88)) 0 0 (fl_A ad 88) := by
  refine Met.ofW (cc := b_CR_stepOpen) (maxL := 1) (ret := none) (by decide) rfl ?_
  intro p e s m args below meth c s₁ B hml hv
  obtain ⟨rfl, hP, hK, hSt, hN⟩ := hv
  have hx := B.exec
  have hb := B.bytes
  have hr := B.returns
  have hts := atoms_spec (ws := w_CR_stepOpen) B.pre
  have hown : s.vm.findClass "FarLink$CraftRecord" = some m.cls := findClass_of_methodNamed B.named
  have hlocks := B.notSynchronized
  have hS : va_S (fl_A ad 88) s.heap s.heap [] := va_S.rf
  have hl := lv_entry ([.ref (ad q)]) (n := 1) (Nat.le_of_ble_eq_true rfl)
  rw [lg_entry_eq]
  generalize (lg_sl ([.ref (ad q)]) ++ List.replicate (1 - (lg_sl ([.ref (ad q)])).length) Slot.unset).toArray = ls at hl ⊢
  have hl : lv_has ls 1 [(0, .ref (ad q))] := hl
  have hG := g_CR_stepOpen.eq_1 f w
  refine lv_aload_n hx hb d_CR_stepOpen_0 rfl (lv_at hl 0 rfl) ?_
  refine lv_dup hx hb d_CR_stepOpen_1 rfl ?_
  refine gt_CR (k := 9) (v := .int (f 9)) hx hb hts hown hK hP hq (hts _ (List.mem_cons_of_mem _ tw_230)) (by decide) rfl rfl d_CR_stepOpen_2 ?_
  refine lv_iconst (v := 1) hx hb d_CR_stepOpen_5 (by decide) ?_
  refine lv_isub hx hb d_CR_stepOpen_6 ?_
  refine pt_CR (k := 9) hx hb hts hown hK hi hP hS hq (hts _ (List.mem_cons_of_mem _ tw_230)) (by decide) rfl rfl rfl rfl (Nat.le_of_ble_eq_true rfl) rfl d_CR_stepOpen_7 (fun H locs hP hS => ?_)
  refine lv_aload_n hx hb d_CR_stepOpen_10 rfl (lv_at hl 0 rfl) ?_
  refine gt_CR (k := 9) (v := .int ((f 9) - 1)) hx hb hts hown hK hP hq (hts _ (List.mem_cons_of_mem _ tw_230)) (by decide) rfl rfl d_CR_stepOpen_11 ?_
  refine lv_if_ne (tgt := 27) hx hb d_CR_stepOpen_14 (by decide) (fun h_1 => ?_) (fun h_1 => ?_)
  ·
    have hG := hG.trans (if_neg h_1)
    refine lv_aload_n hx hb d_CR_stepOpen_27 rfl (lv_at hl 0 rfl) ?_
    refine lv_ldc (v := 131072) hx hb hown (hts _ (List.mem_cons_of_mem _ tw_496)) d_CR_stepOpen_28 ?_
    refine fl_calli (va_runV (As := [.int 131072]) (rest := []) ⟨hx, hb, hml, hown, hts⟩ (c_CR_has l hi hq M (upd f 9 ((f 9) - 1)) w 131072) (kv_CR_has hts (hts _ (List.mem_cons_of_mem _ tw_483)) ⟨Nat.le_of_ble_eq_true rfl, Nat.le_of_ble_eq_true rfl⟩) (fl_preV hK hSt hN hS hP (lt_CR hq) (kc_CR hq) rfl) rfl rfl hl.1 rfl (lv_room (Nat.le_of_ble_eq_true rfl)) d_CR_stepOpen_30 ⟨Nat.zero_le _, Nat.zero_le _⟩) hS (fun H locs hP hS => ?_)
    refine lv_if_ne (tgt := 37) hx hb d_CR_stepOpen_33 (by decide) (fun h_2 => ?_) (fun h_2 => ?_)
    ·
      have hG := hG.trans (if_neg h_2)
      refine lv_aload_n hx hb d_CR_stepOpen_37 rfl (lv_at hl 0 rfl) ?_
      refine lv_dup hx hb d_CR_stepOpen_38 rfl ?_
      refine gt_CR (k := 10) (v := .int (f 10)) hx hb hts hown hK hP hq (hts _ (List.mem_cons_of_mem _ tw_231)) (by decide) rfl rfl d_CR_stepOpen_39 ?_
      refine lv_iconst (v := 1) hx hb d_CR_stepOpen_42 (by decide) ?_
      refine lv_isub hx hb d_CR_stepOpen_43 ?_
      refine pt_CR (k := 10) hx hb hts hown hK hi hP hS hq (hts _ (List.mem_cons_of_mem _ tw_231)) (by decide) rfl rfl rfl rfl (Nat.le_of_ble_eq_true rfl) rfl d_CR_stepOpen_44 (fun H locs hP hS => ?_)
      refine lv_aload_n hx hb d_CR_stepOpen_47 rfl (lv_at hl 0 rfl) ?_
      refine gt_CR (k := 10) (v := .int ((f 10) - 1)) hx hb hts hown hK hP hq (hts _ (List.mem_cons_of_mem _ tw_231)) (by decide) rfl rfl d_CR_stepOpen_48 ?_
      refine lv_if_le (tgt := 55) hx hb d_CR_stepOpen_51 (by decide) (fun h_3 => ?_) (fun h_3 => ?_)
      ·
        have hG := hG.trans (if_pos h_3)
        refine lv_aload_n hx hb d_CR_stepOpen_55 rfl (lv_at hl 0 rfl) ?_
        refine gt_CR (k := 11) (v := .int (f 11)) hx hb hts hown hK hP hq (hts _ (List.mem_cons_of_mem _ tw_232)) (by decide) rfl rfl d_CR_stepOpen_56 ?_
        refine lv_iconst (v := 4) hx hb d_CR_stepOpen_59 (by decide) ?_
        refine lv_icmp_ne (tgt := 71) hx hb d_CR_stepOpen_60 (by decide) (fun h_4 => ?_) (fun h_4 => ?_)
        ·
          have hG := hG.trans (if_neg h_4)
          refine lv_aload_n hx hb d_CR_stepOpen_71 rfl (lv_at hl 0 rfl) ?_
          refine lv_dup hx hb d_CR_stepOpen_72 rfl ?_
          refine gt_CR (k := 11) (v := .int (f 11)) hx hb hts hown hK hP hq (hts _ (List.mem_cons_of_mem _ tw_232)) (by decide) rfl rfl d_CR_stepOpen_73 ?_
          refine lv_iconst (v := 1) hx hb d_CR_stepOpen_76 (by decide) ?_
          refine lv_iadd hx hb d_CR_stepOpen_77 ?_
          refine pt_CR (k := 11) hx hb hts hown hK hi hP hS hq (hts _ (List.mem_cons_of_mem _ tw_232)) (by decide) rfl rfl rfl rfl (Nat.le_of_ble_eq_true rfl) rfl d_CR_stepOpen_78 (fun H locs hP hS => ?_)
          refine lv_aload_n hx hb d_CR_stepOpen_81 rfl (lv_at hl 0 rfl) ?_
          refine fl_callv (va_runV (As := []) (rest := []) ⟨hx, hb, hml, hown, hts⟩ (c_CR_askForParts l hi hq M (upd (upd (upd f 9 ((f 9) - 1)) 10 ((f 10) - 1)) 11 ((f 11) + 1)) w) (kv_CR_askForParts hts (hts _ (List.mem_cons_of_mem _ tw_511)) ⟨Nat.le_of_ble_eq_true rfl, Nat.le_of_ble_eq_true rfl⟩) (fl_preV hK hSt hN hS hP (lt_CR hq) (kc_CR hq) rfl) rfl rfl hl.1 rfl (lv_room (Nat.le_of_ble_eq_true rfl)) d_CR_stepOpen_82 ⟨Nat.zero_le _, Nat.zero_le _⟩) hS (fun H locs hP hS => ?_)
          exact fl_vret hx hb hr hlocks hP hS (by rw [hG]) d_CR_stepOpen_85
        ·
          have hG := hG.trans (if_pos h_4)
          refine lv_aload_n hx hb d_CR_stepOpen_63 rfl (lv_at hl 0 rfl) ?_
          refine lv_iconst (v := 3) hx hb d_CR_stepOpen_64 (by decide) ?_
          refine fl_callv (va_runV (As := [.int 3]) (rest := []) ⟨hx, hb, hml, hown, hts⟩ (c_CR_endWith l hi hq M (upd (upd f 9 ((f 9) - 1)) 10 ((f 10) - 1)) w 3) (kv_CR_endWith hts (hts _ (List.mem_cons_of_mem _ tw_470)) ⟨Nat.le_of_ble_eq_true rfl, Nat.le_of_ble_eq_true rfl⟩) (fl_preV hK hSt hN hS hP (lt_CR hq) (kc_CR hq) rfl) rfl rfl hl.1 rfl (lv_room (Nat.le_of_ble_eq_true rfl)) d_CR_stepOpen_65 ⟨Nat.zero_le _, Nat.zero_le _⟩) hS (fun H locs hP hS => ?_)
          refine lv_goto (tgt := 85) hx hb d_CR_stepOpen_68 (by decide) ?_
          exact fl_vret hx hb hr hlocks hP hS (by rw [hG]) d_CR_stepOpen_85
      ·
        have hG := hG.trans (if_neg h_3)
        exact fl_vret hx hb hr hlocks hP hS (by rw [hG]) d_CR_stepOpen_54
    ·
      have hG := hG.trans (if_pos h_2)
      exact fl_vret hx hb hr hlocks hP hS (by rw [hG]) d_CR_stepOpen_36
  ·
    have hG := hG.trans (if_pos h_1)
    refine lv_aload_n hx hb d_CR_stepOpen_17 rfl (lv_at hl 0 rfl) ?_
    refine lv_iconst (v := 4) hx hb d_CR_stepOpen_18 (by decide) ?_
    refine pt_CR (k := 3) hx hb hts hown hK hi hP hS hq (hts _ (List.mem_cons_of_mem _ tw_222)) (by decide) rfl rfl rfl rfl (Nat.le_of_ble_eq_true rfl) rfl d_CR_stepOpen_19 (fun H locs hP hS => ?_)
    refine lv_aload_n hx hb d_CR_stepOpen_22 rfl (lv_at hl 0 rfl) ?_
    refine fl_callv (va_runV (As := []) (rest := []) ⟨hx, hb, hml, hown, hts⟩ (c_CR_becomeClosed l hi hq M (upd (upd f 9 ((f 9) - 1)) 3 4) w) (kv_CR_becomeClosed hts (hts _ (List.mem_cons_of_mem _ tw_515)) ⟨Nat.le_of_ble_eq_true rfl, Nat.le_of_ble_eq_true rfl⟩) (fl_preV hK hSt hN hS hP (lt_CR hq) (kc_CR hq) rfl) rfl rfl hl.1 rfl (lv_room (Nat.le_of_ble_eq_true rfl)) d_CR_stepOpen_23 ⟨Nat.zero_le _, Nat.zero_le _⟩) hS (fun H locs hP hS => ?_)
    exact fl_vret hx hb hr hlocks hP hS (by rw [hG]) d_CR_stepOpen_26
theorem hd_CR_stepOpen : y_CR_stepOpen.cls ≠ "java/lang/invoke/MethodHandle" ∧ y_CR_stepOpen.cls ≠ "java/lang/invoke/VarHandle" ∧ (parseMethodDescriptor y_CR_stepOpen.desc).map (fun d => d.parameters.length) = some 0 := by decide +kernel
theorem kv_CR_stepOpen {R : Room} {s : State} {args : Array Value} {c0 : Cond} {own : String} {index : Nat} (hts : ∀ w ∈ c0 :: gw, w.before args s = true) (hl : (Cond.methodLink own index y_CR_stepOpen).before args s = true) (hR : 2 + 1 ≤ R.frames ∧ 8 + (1 + 11) + 41 ≤ R.locals) : CallW R s args own "FarLink$CraftRecord" index y_CR_stepOpen b_CR_stepOpen 1 none w_CR_stepOpen ({ frames := 2, cells := 0, slots := 0, locals := 41 } : Room) 0 0 0 := ⟨callB_of 0 hts (gw_in tw_534) rfl rfl rfl (hts _ (List.mem_cons_of_mem _ tw_9)) hl hd_CR_stepOpen hR, hts _ (List.mem_cons_of_mem _ tw_533), hts _ (List.mem_cons_of_mem _ ps_CR_stepOpen)⟩
def g_CR_stepEnding (f : Nat → Int32) (w : Nat → Int32) : (Nat → Int32) × (Nat → Int32) :=
  if ((f 10) - 1) ≤ 0 then (if (f 11) = 4 then ((((g_CR_becomeClosed (upd f 10 ((f 10) - 1)) w).1), ((g_CR_becomeClosed (upd f 10 ((f 10) - 1)) w).2))) else ((((g_CR_tellFinished (upd (upd f 10 ((f 10) - 1)) 11 ((f 11) + 1)) w).1), ((g_CR_tellFinished (upd (upd f 10 ((f 10) - 1)) 11 ((f 11) + 1)) w).2)))) else (((upd f 10 ((f 10) - 1)), w))
set_option maxHeartbeats 4000000 in
set_option maxRecDepth 100000 in
theorem c_CR_stepEnding (l : Launch) {D : va_G} {ad : Nat → Nat} {cA : Nat → ClassId} {st : Nat → Nat} (hi : fl_inj ad 88) {q : Nat} (hq : is_CR q) (M : fl_M) (f : Nat → Int32) (w : Nat → Int32) : Met l y_CR_stepEnding w_CR_stepEnding ({ frames := 1, cells := 0, slots := 0, locals := 20 } : Room) (va_Pc [.ref (ad q)] (fl_B D cls (xt cA) (xSL st) xFN xMN ad (xc ad cA) 88 (pCR M q f w))) (va_Qv (fun M' => M' = (pCR M q ((g_CR_stepEnding f w).1) ((g_CR_stepEnding f w).2))) (fl_E D cls ad (xc ad cA) 88) (fl_A ad 88)) 0 0 (fl_A ad 88) := by
  refine Met.ofW (cc := b_CR_stepEnding) (maxL := 1) (ret := none) (by decide) rfl ?_
  intro p e s m args below meth c s₁ B hml hv
  obtain ⟨rfl, hP, hK, hSt, hN⟩ := hv
  have hx := B.exec
  have hb := B.bytes
  have hr := B.returns
  have hts := atoms_spec (ws := w_CR_stepEnding) B.pre
  have hown : s.vm.findClass "FarLink$CraftRecord" = some m.cls := findClass_of_methodNamed B.named
  have hlocks := B.notSynchronized
  have hS : va_S (fl_A ad 88) s.heap s.heap [] := va_S.rf
  have hl := lv_entry ([.ref (ad q)]) (n := 1) (Nat.le_of_ble_eq_true rfl)
  rw [lg_entry_eq]
  generalize (lg_sl ([.ref (ad q)]) ++ List.replicate (1 - (lg_sl ([.ref (ad q)])).length) Slot.unset).toArray = ls at hl ⊢
  have hl : lv_has ls 1 [(0, .ref (ad q))] := hl
  have hG := g_CR_stepEnding.eq_1 f w
  refine lv_aload_n hx hb d_CR_stepEnding_0 rfl (lv_at hl 0 rfl) ?_
  refine lv_dup hx hb d_CR_stepEnding_1 rfl ?_
  refine gt_CR (k := 10) (v := .int (f 10)) hx hb hts hown hK hP hq (hts _ (List.mem_cons_of_mem _ tw_231)) (by decide) rfl rfl d_CR_stepEnding_2 ?_
  refine lv_iconst (v := 1) hx hb d_CR_stepEnding_5 (by decide) ?_
  refine lv_isub hx hb d_CR_stepEnding_6 ?_
  refine pt_CR (k := 10) hx hb hts hown hK hi hP hS hq (hts _ (List.mem_cons_of_mem _ tw_231)) (by decide) rfl rfl rfl rfl (Nat.le_of_ble_eq_true rfl) rfl d_CR_stepEnding_7 (fun H locs hP hS => ?_)
  refine lv_aload_n hx hb d_CR_stepEnding_10 rfl (lv_at hl 0 rfl) ?_
  refine gt_CR (k := 10) (v := .int ((f 10) - 1)) hx hb hts hown hK hP hq (hts _ (List.mem_cons_of_mem _ tw_231)) (by decide) rfl rfl d_CR_stepEnding_11 ?_
  refine lv_if_le (tgt := 18) hx hb d_CR_stepEnding_14 (by decide) (fun h_1 => ?_) (fun h_1 => ?_)
  ·
    have hG := hG.trans (if_pos h_1)
    refine lv_aload_n hx hb d_CR_stepEnding_18 rfl (lv_at hl 0 rfl) ?_
    refine gt_CR (k := 11) (v := .int (f 11)) hx hb hts hown hK hP hq (hts _ (List.mem_cons_of_mem _ tw_232)) (by decide) rfl rfl d_CR_stepEnding_19 ?_
    refine lv_iconst (v := 4) hx hb d_CR_stepEnding_22 (by decide) ?_
    refine lv_icmp_ne (tgt := 33) hx hb d_CR_stepEnding_23 (by decide) (fun h_2 => ?_) (fun h_2 => ?_)
    ·
      have hG := hG.trans (if_neg h_2)
      refine lv_aload_n hx hb d_CR_stepEnding_33 rfl (lv_at hl 0 rfl) ?_
      refine lv_dup hx hb d_CR_stepEnding_34 rfl ?_
      refine gt_CR (k := 11) (v := .int (f 11)) hx hb hts hown hK hP hq (hts _ (List.mem_cons_of_mem _ tw_232)) (by decide) rfl rfl d_CR_stepEnding_35 ?_
      refine lv_iconst (v := 1) hx hb d_CR_stepEnding_38 (by decide) ?_
      refine lv_iadd hx hb d_CR_stepEnding_39 ?_
      refine pt_CR (k := 11) hx hb hts hown hK hi hP hS hq (hts _ (List.mem_cons_of_mem _ tw_232)) (by decide) rfl rfl rfl rfl (Nat.le_of_ble_eq_true rfl) rfl d_CR_stepEnding_40 (fun H locs hP hS => ?_)
      refine lv_aload_n hx hb d_CR_stepEnding_43 rfl (lv_at hl 0 rfl) ?_
      refine fl_callv (va_runV (As := []) (rest := []) ⟨hx, hb, hml, hown, hts⟩ (c_CR_tellFinished l hi hq M (upd (upd f 10 ((f 10) - 1)) 11 ((f 11) + 1)) w) (kv_CR_tellFinished hts (hts _ (List.mem_cons_of_mem _ tw_474)) ⟨Nat.le_of_ble_eq_true rfl, Nat.le_of_ble_eq_true rfl⟩) (fl_preV hK hSt hN hS hP (lt_CR hq) (kc_CR hq) rfl) rfl rfl hl.1 rfl (lv_room (Nat.le_of_ble_eq_true rfl)) d_CR_stepEnding_44 ⟨Nat.zero_le _, Nat.zero_le _⟩) hS (fun H locs hP hS => ?_)
      exact fl_vret hx hb hr hlocks hP hS (by rw [hG]) d_CR_stepEnding_47
    ·
      have hG := hG.trans (if_pos h_2)
      refine lv_aload_n hx hb d_CR_stepEnding_26 rfl (lv_at hl 0 rfl) ?_
      refine fl_callv (va_runV (As := []) (rest := []) ⟨hx, hb, hml, hown, hts⟩ (c_CR_becomeClosed l hi hq M (upd f 10 ((f 10) - 1)) w) (kv_CR_becomeClosed hts (hts _ (List.mem_cons_of_mem _ tw_515)) ⟨Nat.le_of_ble_eq_true rfl, Nat.le_of_ble_eq_true rfl⟩) (fl_preV hK hSt hN hS hP (lt_CR hq) (kc_CR hq) rfl) rfl rfl hl.1 rfl (lv_room (Nat.le_of_ble_eq_true rfl)) d_CR_stepEnding_27 ⟨Nat.zero_le _, Nat.zero_le _⟩) hS (fun H locs hP hS => ?_)
      refine lv_goto (tgt := 47) hx hb d_CR_stepEnding_30 (by decide) ?_
      exact fl_vret hx hb hr hlocks hP hS (by rw [hG]) d_CR_stepEnding_47
  ·
    have hG := hG.trans (if_neg h_1)
    exact fl_vret hx hb hr hlocks hP hS (by rw [hG]) d_CR_stepEnding_17
theorem hd_CR_stepEnding : y_CR_stepEnding.cls ≠ "java/lang/invoke/MethodHandle" ∧ y_CR_stepEnding.cls ≠ "java/lang/invoke/VarHandle" ∧ (parseMethodDescriptor y_CR_stepEnding.desc).map (fun d => d.parameters.length) = some 0 := by decide +kernel
theorem kv_CR_stepEnding {R : Room} {s : State} {args : Array Value} {c0 : Cond} {own : String} {index : Nat} (hts : ∀ w ∈ c0 :: gw, w.before args s = true) (hl : (Cond.methodLink own index y_CR_stepEnding).before args s = true) (hR : 1 + 1 ≤ R.frames ∧ 8 + (1 + 11) + 20 ≤ R.locals) : CallW R s args own "FarLink$CraftRecord" index y_CR_stepEnding b_CR_stepEnding 1 none w_CR_stepEnding ({ frames := 1, cells := 0, slots := 0, locals := 20 } : Room) 0 0 0 := ⟨callB_of 0 hts (gw_in tw_538) rfl rfl rfl (hts _ (List.mem_cons_of_mem _ tw_9)) hl hd_CR_stepEnding hR, hts _ (List.mem_cons_of_mem _ tw_537), hts _ (List.mem_cons_of_mem _ ps_CR_stepEnding)⟩
def g_CR_stepClocks (f : Nat → Int32) (w : Nat → Int32) : (Nat → Int32) × (Nat → Int32) :=
  if (f 2) = 1 then ((((g_CR_stepOpen f w).1), ((g_CR_stepOpen f w).2))) else (if (f 2) = 2 then ((((g_CR_stepEnding f w).1), ((g_CR_stepEnding f w).2))) else ((f, w)))
set_option maxHeartbeats 4000000 in
set_option maxRecDepth 100000 in
theorem c_CR_stepClocks (l : Launch) {D : va_G} {ad : Nat → Nat} {cA : Nat → ClassId} {st : Nat → Nat} (hi : fl_inj ad 88) {q : Nat} (hq : is_CR q) (M : fl_M) (f : Nat → Int32) (w : Nat → Int32) : Met l y_CR_stepClocks w_CR_stepClocks ({ frames := 3, cells := 0, slots := 0, locals := 61 } : Room) (va_Pc [.ref (ad q)] (fl_B D cls (xt cA) (xSL st) xFN xMN ad (xc ad cA) 88 (pCR M q f w))) (va_Qv (fun M' => M' = (pCR M q ((g_CR_stepClocks f w).1) ((g_CR_stepClocks f w).2))) (fl_E D cls ad (xc ad cA) 88) (fl_A ad 88)) 0 0 (fl_A ad 88) := by
  refine Met.ofW (cc := b_CR_stepClocks) (maxL := 1) (ret := none) (by decide) rfl ?_
  intro p e s m args below meth c s₁ B hml hv
  obtain ⟨rfl, hP, hK, hSt, hN⟩ := hv
  have hx := B.exec
  have hb := B.bytes
  have hr := B.returns
  have hts := atoms_spec (ws := w_CR_stepClocks) B.pre
  have hown : s.vm.findClass "FarLink$CraftRecord" = some m.cls := findClass_of_methodNamed B.named
  have hlocks := B.notSynchronized
  have hS : va_S (fl_A ad 88) s.heap s.heap [] := va_S.rf
  have hl := lv_entry ([.ref (ad q)]) (n := 1) (Nat.le_of_ble_eq_true rfl)
  rw [lg_entry_eq]
  generalize (lg_sl ([.ref (ad q)]) ++ List.replicate (1 - (lg_sl ([.ref (ad q)])).length) Slot.unset).toArray = ls at hl ⊢
  have hl : lv_has ls 1 [(0, .ref (ad q))] := hl
  have hG := g_CR_stepClocks.eq_1 f w
  refine lv_aload_n hx hb d_CR_stepClocks_0 rfl (lv_at hl 0 rfl) ?_
  refine gt_CR (k := 2) (v := .int (f 2)) hx hb hts hown hK hP hq (hts _ (List.mem_cons_of_mem _ tw_219)) (by decide) rfl rfl d_CR_stepClocks_1 ?_
  refine lv_iconst (v := 1) hx hb d_CR_stepClocks_4 (by decide) ?_
  refine lv_icmp_ne (tgt := 15) hx hb d_CR_stepClocks_5 (by decide) (fun h_1 => ?_) (fun h_1 => ?_)
  ·
    have hG := hG.trans (if_neg h_1)
    refine lv_aload_n hx hb d_CR_stepClocks_15 rfl (lv_at hl 0 rfl) ?_
    refine gt_CR (k := 2) (v := .int (f 2)) hx hb hts hown hK hP hq (hts _ (List.mem_cons_of_mem _ tw_219)) (by decide) rfl rfl d_CR_stepClocks_16 ?_
    refine lv_iconst (v := 2) hx hb d_CR_stepClocks_19 (by decide) ?_
    refine lv_icmp_ne (tgt := 27) hx hb d_CR_stepClocks_20 (by decide) (fun h_2 => ?_) (fun h_2 => ?_)
    ·
      have hG := hG.trans (if_neg h_2)
      exact fl_vret hx hb hr hlocks hP hS (by rw [hG]) d_CR_stepClocks_27
    ·
      have hG := hG.trans (if_pos h_2)
      refine lv_aload_n hx hb d_CR_stepClocks_23 rfl (lv_at hl 0 rfl) ?_
      refine fl_callv (va_runV (As := []) (rest := []) ⟨hx, hb, hml, hown, hts⟩ (c_CR_stepEnding l hi hq M f w) (kv_CR_stepEnding hts (hts _ (List.mem_cons_of_mem _ tw_535)) ⟨Nat.le_of_ble_eq_true rfl, Nat.le_of_ble_eq_true rfl⟩) (fl_preV hK hSt hN hS hP (lt_CR hq) (kc_CR hq) rfl) rfl rfl hl.1 rfl (lv_room (Nat.le_of_ble_eq_true rfl)) d_CR_stepClocks_24 ⟨Nat.zero_le _, Nat.zero_le _⟩) hS (fun H locs hP hS => ?_)
      exact fl_vret hx hb hr hlocks hP hS (by rw [hG]) d_CR_stepClocks_27
  ·
    have hG := hG.trans (if_pos h_1)
    refine lv_aload_n hx hb d_CR_stepClocks_8 rfl (lv_at hl 0 rfl) ?_
    refine fl_callv (va_runV (As := []) (rest := []) ⟨hx, hb, hml, hown, hts⟩ (c_CR_stepOpen l hi hq M f w) (kv_CR_stepOpen hts (hts _ (List.mem_cons_of_mem _ tw_531)) ⟨Nat.le_of_ble_eq_true rfl, Nat.le_of_ble_eq_true rfl⟩) (fl_preV hK hSt hN hS hP (lt_CR hq) (kc_CR hq) rfl) rfl rfl hl.1 rfl (lv_room (Nat.le_of_ble_eq_true rfl)) d_CR_stepClocks_9 ⟨Nat.zero_le _, Nat.zero_le _⟩) hS (fun H locs hP hS => ?_)
    refine lv_goto (tgt := 27) hx hb d_CR_stepClocks_12 (by decide) ?_
    exact fl_vret hx hb hr hlocks hP hS (by rw [hG]) d_CR_stepClocks_27
theorem hd_CR_stepClocks : y_CR_stepClocks.cls ≠ "java/lang/invoke/MethodHandle" ∧ y_CR_stepClocks.cls ≠ "java/lang/invoke/VarHandle" ∧ (parseMethodDescriptor y_CR_stepClocks.desc).map (fun d => d.parameters.length) = some 0 := by decide +kernel
theorem kv_CR_stepClocks {R : Room} {s : State} {args : Array Value} {c0 : Cond} {own : String} {index : Nat} (hts : ∀ w ∈ c0 :: gw, w.before args s = true) (hl : (Cond.methodLink own index y_CR_stepClocks).before args s = true) (hR : 3 + 1 ≤ R.frames ∧ 8 + (1 + 11) + 61 ≤ R.locals) : CallW R s args own "FarLink$CraftRecord" index y_CR_stepClocks b_CR_stepClocks 1 none w_CR_stepClocks ({ frames := 3, cells := 0, slots := 0, locals := 61 } : Room) 0 0 0 := ⟨callB_of 0 hts (gw_in tw_530) rfl rfl rfl (hts _ (List.mem_cons_of_mem _ tw_9)) hl hd_CR_stepClocks hR, hts _ (List.mem_cons_of_mem _ tw_528), hts _ (List.mem_cons_of_mem _ tw_529)⟩
def g_CR_payOne (f : Nat → Int32) (w : Nat → Int32) : Int64 × (Nat → Int32) × (Nat → Int32) :=
  if (f 12) = 0 then (if (f 13) = 0 then ((768 ||| (j_lshl ((f 3).toInt64) 16), (upd f 14 0), w)) else ((512 ||| (j_lshl ((g_CR_lackingParts (upd f 13 0) w).toInt64) 16), (upd f 13 0), w))) else ((256, (upd f 12 0), w))
set_option maxHeartbeats 4000000 in
set_option maxRecDepth 100000 in
theorem c_CR_payOne (l : Launch) {D : va_G} {ad : Nat → Nat} {cA : Nat → ClassId} {st : Nat → Nat} (hi : fl_inj ad 88) {q : Nat} (hq : is_CR q) (M : fl_M) (f : Nat → Int32) (w : Nat → Int32) : Met l y_CR_payOne w_CR_payOne ({ frames := 2, cells := 0, slots := 0, locals := 40 } : Room) (va_Pc [.ref (ad q)] (fl_B D cls (xt cA) (xSL st) xFN xMN ad (xc ad cA) 88 (pCR M q f w))) (va_Ql (fun r M' => r = (g_CR_payOne f w).1 ∧ M' = (pCR M q ((g_CR_payOne f w).2.1) ((g_CR_payOne f w).2.2))) (fl_E D cls ad (xc ad cA) 88) (fl_A ad 88)) 0 0 (fl_A ad 88) := by
  refine Met.ofW (cc := b_CR_payOne) (maxL := 1) (ret := (some .long)) (by decide) rfl ?_
  intro p e s m args below meth c s₁ B hml hv
  obtain ⟨rfl, hP, hK, hSt, hN⟩ := hv
  have hx := B.exec
  have hb := B.bytes
  have hr := B.returns
  have hts := atoms_spec (ws := w_CR_payOne) B.pre
  have hown : s.vm.findClass "FarLink$CraftRecord" = some m.cls := findClass_of_methodNamed B.named
  have hlocks := B.notSynchronized
  have hS : va_S (fl_A ad 88) s.heap s.heap [] := va_S.rf
  have hl := lv_entry ([.ref (ad q)]) (n := 1) (Nat.le_of_ble_eq_true rfl)
  rw [lg_entry_eq]
  generalize (lg_sl ([.ref (ad q)]) ++ List.replicate (1 - (lg_sl ([.ref (ad q)])).length) Slot.unset).toArray = ls at hl ⊢
  have hl : lv_has ls 1 [(0, .ref (ad q))] := hl
  have hG := g_CR_payOne.eq_1 f w
  refine lv_aload_n hx hb d_CR_payOne_0 rfl (lv_at hl 0 rfl) ?_
  refine gt_CR (k := 12) (v := .int (f 12)) hx hb hts hown hK hP hq (hts _ (List.mem_cons_of_mem _ tw_233)) (by decide) rfl rfl d_CR_payOne_1 ?_
  refine lv_if_eq (tgt := 16) hx hb d_CR_payOne_4 (by decide) (fun h_1 => ?_) (fun h_1 => ?_)
  ·
    have hG := hG.trans (if_pos h_1)
    refine lv_aload_n hx hb d_CR_payOne_16 rfl (lv_at hl 0 rfl) ?_
    refine gt_CR (k := 13) (v := .int (f 13)) hx hb hts hown hK hP hq (hts _ (List.mem_cons_of_mem _ tw_234)) (by decide) rfl rfl d_CR_payOne_17 ?_
    refine lv_if_eq (tgt := 41) hx hb d_CR_payOne_20 (by decide) (fun h_2 => ?_) (fun h_2 => ?_)
    ·
      have hG := hG.trans (if_pos h_2)
      refine lv_aload_n hx hb d_CR_payOne_41 rfl (lv_at hl 0 rfl) ?_
      refine lv_iconst (v := 0) hx hb d_CR_payOne_42 (by decide) ?_
      refine pt_CR (k := 14) hx hb hts hown hK hi hP hS hq (hts _ (List.mem_cons_of_mem _ tw_235)) (by decide) rfl rfl (rfl) (rfl) (Nat.le_of_ble_eq_true rfl) rfl d_CR_payOne_43 (fun H locs hP hS => ?_)
      refine lv_ldc2 (v := 768) hx hb hown (hts _ (List.mem_cons_of_mem _ tw_553)) d_CR_payOne_46 ?_
      refine lv_aload_n hx hb d_CR_payOne_49 rfl (lv_at hl 0 rfl) ?_
      refine gt_CR (k := 3) (v := .int (f 3)) hx hb hts hown hK hP hq (hts _ (List.mem_cons_of_mem _ tw_222)) (by decide) rfl rfl d_CR_payOne_50 ?_
      refine lv_i2l (v := (f 3).toInt64) hx hb d_CR_payOne_53 rfl ?_
      refine lv_bipush (v := 16) hx hb d_CR_payOne_54 (by decide) ?_
      refine lv_lshl (v := j_lshl ((f 3).toInt64) 16) hx hb d_CR_payOne_56 rfl ?_
      refine lv_lor hx hb d_CR_payOne_57 ?_
      exact fl_lret hx hb hr hlocks hP hS (congrArg Prod.fst hG).symm (by rw [hG]) d_CR_payOne_58
    ·
      have hG := hG.trans (if_neg h_2)
      refine lv_aload_n hx hb d_CR_payOne_23 rfl (lv_at hl 0 rfl) ?_
      refine lv_iconst (v := 0) hx hb d_CR_payOne_24 (by decide) ?_
      refine pt_CR (k := 13) hx hb hts hown hK hi hP hS hq (hts _ (List.mem_cons_of_mem _ tw_234)) (by decide) rfl rfl (rfl) (rfl) (Nat.le_of_ble_eq_true rfl) rfl d_CR_payOne_25 (fun H locs hP hS => ?_)
      refine lv_ldc2 (v := 512) hx hb hown (hts _ (List.mem_cons_of_mem _ tw_552)) d_CR_payOne_28 ?_
      refine lv_aload_n hx hb d_CR_payOne_31 rfl (lv_at hl 0 rfl) ?_
      refine fl_calli (va_runV (As := []) (rest := [.long 512]) ⟨hx, hb, hml, hown, hts⟩ (c_CR_lackingParts l hi hq M (upd f 13 0) w) (kv_CR_lackingParts hts (hts _ (List.mem_cons_of_mem _ tw_497)) ⟨Nat.le_of_ble_eq_true rfl, Nat.le_of_ble_eq_true rfl⟩) (fl_preV hK hSt hN hS hP (lt_CR hq) (kc_CR hq) rfl) rfl rfl hl.1 rfl (lv_room (Nat.le_of_ble_eq_true rfl)) d_CR_payOne_32 ⟨Nat.zero_le _, Nat.zero_le _⟩) hS (fun H locs hP hS => ?_)
      refine lv_i2l (v := (g_CR_lackingParts (upd f 13 0) w).toInt64) hx hb d_CR_payOne_35 rfl ?_
      refine lv_bipush (v := 16) hx hb d_CR_payOne_36 (by decide) ?_
      refine lv_lshl (v := j_lshl ((g_CR_lackingParts (upd f 13 0) w).toInt64) 16) hx hb d_CR_payOne_38 rfl ?_
      refine lv_lor hx hb d_CR_payOne_39 ?_
      exact fl_lret hx hb hr hlocks hP hS (congrArg Prod.fst hG).symm (by rw [hG]) d_CR_payOne_40
  ·
    have hG := hG.trans (if_neg h_1)
    refine lv_aload_n hx hb d_CR_payOne_7 rfl (lv_at hl 0 rfl) ?_
    refine lv_iconst (v := 0) hx hb d_CR_payOne_8 (by decide) ?_
    refine pt_CR (k := 12) hx hb hts hown hK hi hP hS hq (hts _ (List.mem_cons_of_mem _ tw_233)) (by decide) rfl rfl (rfl) (rfl) (Nat.le_of_ble_eq_true rfl) rfl d_CR_payOne_9 (fun H locs hP hS => ?_)
    refine lv_ldc2 (v := 256) hx hb hown (hts _ (List.mem_cons_of_mem _ tw_551)) d_CR_payOne_12 ?_
    exact fl_lret hx hb hr hlocks hP hS (congrArg Prod.fst hG).symm (by rw [hG]) d_CR_payOne_15
theorem hd_CR_payOne : y_CR_payOne.cls ≠ "java/lang/invoke/MethodHandle" ∧ y_CR_payOne.cls ≠ "java/lang/invoke/VarHandle" ∧ (parseMethodDescriptor y_CR_payOne.desc).map (fun d => d.parameters.length) = some 0 := by decide +kernel
theorem kv_CR_payOne {R : Room} {s : State} {args : Array Value} {c0 : Cond} {own : String} {index : Nat} (hts : ∀ w ∈ c0 :: gw, w.before args s = true) (hl : (Cond.methodLink own index y_CR_payOne).before args s = true) (hR : 2 + 1 ≤ R.frames ∧ 8 + (1 + 11) + 40 ≤ R.locals) : CallW R s args own "FarLink$CraftRecord" index y_CR_payOne b_CR_payOne 1 (some .long) w_CR_payOne ({ frames := 2, cells := 0, slots := 0, locals := 40 } : Room) 0 0 0 := ⟨callB_of 0 hts (gw_in tw_550) rfl rfl rfl (hts _ (List.mem_cons_of_mem _ tw_9)) hl hd_CR_payOne hR, hts _ (List.mem_cons_of_mem _ tw_548), hts _ (List.mem_cons_of_mem _ tw_549)⟩
