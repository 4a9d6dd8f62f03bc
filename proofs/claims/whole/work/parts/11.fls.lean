/-! contracts: 11.fls -/
def g_FL_isBelow (x1 : Int32) (x2 : Int32) : Int32 :=
  if x1 < 0 then (0) else (if x2 ≤ x1 then (0) else (1))
set_option maxHeartbeats 4000000 in
set_option maxRecDepth 100000 in
theorem c_FL_isBelow (l : Launch) {D : va_G} {ad : Nat → Nat} {cA : Nat → ClassId} {st : Nat → Nat} (hi : fl_inj ad 88) (M : fl_M) (x1 : Int32) (x2 : Int32) : Met l y_FL_isBelow w_FL_isBelow ({ frames := 0, cells := 0, slots := 0, locals := 0 } : Room) (va_Pc [.int x1, .int x2] (fl_B D cls (xt cA) (xSL st) xFN xMN ad (xc ad cA) 88 M)) (va_Qi (fun r M' => r = (g_FL_isBelow x1 x2) ∧ M' = M) (fl_E D cls ad (xc ad cA) 88) (fl_A ad 88)) 0 0 (fl_A ad 88) := by
  refine Met.ofW (cc := b_FL_isBelow) (maxL := 2) (ret := (some .boolean)) (by decide) rfl ?_
  intro p e s m args below meth c s₁ B hml hv
  obtain ⟨rfl, hP, hK, hSt, hN⟩ := hv
  have hx := B.exec
  have hb := B.bytes
  have hr := B.returns
  have hts := atoms_spec (ws := w_FL_isBelow) B.pre
  have hown : s.vm.findClass "FarLink" = some m.cls := findClass_of_methodNamed B.named
  have hlocks := B.notSynchronized
  have hS : va_S (fl_A ad 88) s.heap s.heap [] := va_S.rf
  have hl := lv_entry ([.int x1, .int x2]) (n := 2) (Nat.le_of_ble_eq_true rfl)
  rw [lg_entry_eq]
  generalize (lg_sl ([.int x1, .int x2]) ++ List.replicate (2 - (lg_sl ([.int x1, .int x2])).length) Slot.unset).toArray = ls at hl ⊢
  have hl : lv_has ls 2 [(0, .int x1), (1, .int x2)] := hl
  have hG := g_FL_isBelow.eq_1 x1 x2
  refine lv_iload_n hx hb d_FL_isBelow_0 rfl (lv_at hl 0 rfl) ?_
  refine lv_if_lt (tgt := 13) hx hb d_FL_isBelow_1 (by decide) (fun h_1 => ?_) (fun h_1 => ?_)
  ·
    have hG := hG.trans (if_pos h_1)
    refine lv_iconst (v := 0) hx hb d_FL_isBelow_13 (by decide) ?_
    exact fl_zret hx hb hr hlocks hP hS (rfl) hG.symm rfl d_FL_isBelow_14
  ·
    have hG := hG.trans (if_neg h_1)
    refine lv_iload_n hx hb d_FL_isBelow_4 rfl (lv_at hl 0 rfl) ?_
    refine lv_iload_n hx hb d_FL_isBelow_5 rfl (lv_at hl 1 rfl) ?_
    refine lv_icmp_ge (tgt := 13) hx hb d_FL_isBelow_6 (by decide) (fun h_2 => ?_) (fun h_2 => ?_)
    ·
      have hG := hG.trans (if_pos h_2)
      refine lv_iconst (v := 0) hx hb d_FL_isBelow_13 (by decide) ?_
      exact fl_zret hx hb hr hlocks hP hS (rfl) hG.symm rfl d_FL_isBelow_14
    ·
      have hG := hG.trans (if_neg h_2)
      refine lv_iconst (v := 1) hx hb d_FL_isBelow_9 (by decide) ?_
      refine lv_goto (tgt := 14) hx hb d_FL_isBelow_10 (by decide) ?_
      exact fl_zret hx hb hr hlocks hP hS (rfl) hG.symm rfl d_FL_isBelow_14
theorem z_FL_isBelow (x1 : Int32) (x2 : Int32) : g_FL_isBelow x1 x2 &&& 1 = g_FL_isBelow x1 x2 := by
  unfold g_FL_isBelow
  repeat (first | split | (show (0 : Int32) &&& 1 = 0; rfl) | (show (1 : Int32) &&& 1 = 1; rfl) | rfl)
theorem hd_FL_isBelow : y_FL_isBelow.cls ≠ "java/lang/invoke/MethodHandle" ∧ y_FL_isBelow.cls ≠ "java/lang/invoke/VarHandle" ∧ (parseMethodDescriptor y_FL_isBelow.desc).map (fun d => d.parameters.length) = some 2 := by decide +kernel
theorem kv_FL_isBelow {R : Room} {s : State} {args : Array Value} {c0 : Cond} {own : String} {index : Nat} (hts : ∀ w ∈ c0 :: gw, w.before args s = true) (hl : (Cond.methodLink own index y_FL_isBelow).before args s = true) (hR : 0 + 1 ≤ R.frames ∧ 8 + (2 + 11) + 0 ≤ R.locals) : CallB R s args own index y_FL_isBelow b_FL_isBelow 2 (some .boolean) w_FL_isBelow ({ frames := 0, cells := 0, slots := 0, locals := 0 } : Room) 0 0 2 ∧ (Cond.static y_FL_isBelow).before args s = true := ⟨callB_of 2 hts (gw_in tw_307) rfl rfl rfl (hts _ (List.mem_cons_of_mem _ tw_1)) hl hd_FL_isBelow hR, hts _ (List.mem_cons_of_mem _ tw_306)⟩
theorem kn_FL_isBelow {R : Room} {s : State} {args : Array Value} {c0 : Cond} {own : String} {index : Nat} (hts : ∀ w ∈ c0 :: gw, w.before args s = true) {host : String} (hl : va_Nw (.methodLinkNest own index y_FL_isBelow host) s) (hR : 0 + 1 ≤ R.frames ∧ 8 + (2 + 11) + 0 ≤ R.locals) : va_CN R s args own index y_FL_isBelow host b_FL_isBelow 2 (some .boolean) w_FL_isBelow ({ frames := 0, cells := 0, slots := 0, locals := 0 } : Room) 0 0 2 ∧ (Cond.static y_FL_isBelow).before args s = true ∧ True := ⟨va_cnB 2 hts (gw_in tw_307) rfl rfl rfl hl (hts _ (List.mem_cons_of_mem _ tw_1)) hd_FL_isBelow hR, hts _ (List.mem_cons_of_mem _ tw_306), trivial⟩
def g_FL_wordsBelow (x1 : Int32) : Int32 :=
  (1 <<< (x1 &&& 31)) - 1
set_option maxHeartbeats 4000000 in
set_option maxRecDepth 100000 in
theorem c_FL_wordsBelow (l : Launch) {D : va_G} {ad : Nat → Nat} {cA : Nat → ClassId} {st : Nat → Nat} (hi : fl_inj ad 88) (M : fl_M) (x1 : Int32) : Met l y_FL_wordsBelow w_FL_wordsBelow ({ frames := 0, cells := 0, slots := 0, locals := 0 } : Room) (va_Pc [.int x1] (fl_B D cls (xt cA) (xSL st) xFN xMN ad (xc ad cA) 88 M)) (va_Qi (fun r M' => r = (g_FL_wordsBelow x1) ∧ M' = M) (fl_E D cls ad (xc ad cA) 88) (fl_A ad 88)) 0 0 (fl_A ad 88) := by
  refine Met.ofW (cc := b_FL_wordsBelow) (maxL := 1) (ret := (some .int)) (by decide) rfl ?_
  intro p e s m args below meth c s₁ B hml hv
  obtain ⟨rfl, hP, hK, hSt, hN⟩ := hv
  have hx := B.exec
  have hb := B.bytes
  have hr := B.returns
  have hts := atoms_spec (ws := w_FL_wordsBelow) B.pre
  have hown : s.vm.findClass "FarLink" = some m.cls := findClass_of_methodNamed B.named
  have hlocks := B.notSynchronized
  have hS : va_S (fl_A ad 88) s.heap s.heap [] := va_S.rf
  have hl := lv_entry ([.int x1]) (n := 1) (Nat.le_of_ble_eq_true rfl)
  rw [lg_entry_eq]
  generalize (lg_sl ([.int x1]) ++ List.replicate (1 - (lg_sl ([.int x1])).length) Slot.unset).toArray = ls at hl ⊢
  have hl : lv_has ls 1 [(0, .int x1)] := hl
  have hG := g_FL_wordsBelow.eq_1 x1
  refine lv_iconst (v := 1) hx hb d_FL_wordsBelow_0 (by decide) ?_
  refine lv_iload_n hx hb d_FL_wordsBelow_1 rfl (lv_at hl 0 rfl) ?_
  refine lv_ishl hx hb d_FL_wordsBelow_2 ?_
  refine lv_iconst (v := 1) hx hb d_FL_wordsBelow_3 (by decide) ?_
  refine lv_isub hx hb d_FL_wordsBelow_4 ?_
  exact fl_iret hx hb hr hlocks hP hS hG.symm rfl d_FL_wordsBelow_5
theorem hd_FL_wordsBelow : y_FL_wordsBelow.cls ≠ "java/lang/invoke/MethodHandle" ∧ y_FL_wordsBelow.cls ≠ "java/lang/invoke/VarHandle" ∧ (parseMethodDescriptor y_FL_wordsBelow.desc).map (fun d => d.parameters.length) = some 1 := by decide +kernel
theorem kv_FL_wordsBelow {R : Room} {s : State} {args : Array Value} {c0 : Cond} {own : String} {index : Nat} (hts : ∀ w ∈ c0 :: gw, w.before args s = true) (hl : (Cond.methodLink own index y_FL_wordsBelow).before args s = true) (hR : 0 + 1 ≤ R.frames ∧ 8 + (1 + 11) + 0 ≤ R.locals) : CallB R s args own index y_FL_wordsBelow b_FL_wordsBelow 1 (some .int) w_FL_wordsBelow ({ frames := 0, cells := 0, slots := 0, locals := 0 } : Room) 0 0 1 ∧ (Cond.static y_FL_wordsBelow).before args s = true := ⟨callB_of 1 hts (gw_in tw_326) rfl rfl rfl (hts _ (List.mem_cons_of_mem _ tw_1)) hl hd_FL_wordsBelow hR, hts _ (List.mem_cons_of_mem _ tw_325)⟩
theorem kn_FL_wordsBelow {R : Room} {s : State} {args : Array Value} {c0 : Cond} {own : String} {index : Nat} (hts : ∀ w ∈ c0 :: gw, w.before args s = true) {host : String} (hl : va_Nw (.methodLinkNest own index y_FL_wordsBelow host) s) (hR : 0 + 1 ≤ R.frames ∧ 8 + (1 + 11) + 0 ≤ R.locals) : va_CN R s args own index y_FL_wordsBelow host b_FL_wordsBelow 1 (some .int) w_FL_wordsBelow ({ frames := 0, cells := 0, slots := 0, locals := 0 } : Room) 0 0 1 ∧ (Cond.static y_FL_wordsBelow).before args s = true ∧ True := ⟨va_cnB 1 hts (gw_in tw_326) rfl rfl rfl hl (hts _ (List.mem_cons_of_mem _ tw_1)) hd_FL_wordsBelow hR, hts _ (List.mem_cons_of_mem _ tw_325), trivial⟩
def g_FL_fourBitsAt (x1 : Int64) (x2 : Int32) : Int32 :=
  ((j_lushr x1 x2).toInt32) &&& 15
set_option maxHeartbeats 4000000 in
set_option maxRecDepth 100000 in
theorem c_FL_fourBitsAt (l : Launch) {D : va_G} {ad : Nat → Nat} {cA : Nat → ClassId} {st : Nat → Nat} (hi : fl_inj ad 88) (M : fl_M) (x1 : Int64) (x2 : Int32) : Met l y_FL_fourBitsAt w_FL_fourBitsAt ({ frames := 0, cells := 0, slots := 0, locals := 0 } : Room) (va_Pc [.long x1, .int x2] (fl_B D cls (xt cA) (xSL st) xFN xMN ad (xc ad cA) 88 M)) (va_Qi (fun r M' => r = (g_FL_fourBitsAt x1 x2) ∧ M' = M) (fl_E D cls ad (xc ad cA) 88) (fl_A ad 88)) 0 0 (fl_A ad 88) := by
  refine Met.ofW (cc := b_FL_fourBitsAt) (maxL := 3) (ret := (some .int)) (by decide) rfl ?_
  intro p e s m args below meth c s₁ B hml hv
  obtain ⟨rfl, hP, hK, hSt, hN⟩ := hv
  have hx := B.exec
  have hb := B.bytes
  have hr := B.returns
  have hts := atoms_spec (ws := w_FL_fourBitsAt) B.pre
  have hown : s.vm.findClass "FarLink" = some m.cls := findClass_of_methodNamed B.named
  have hlocks := B.notSynchronized
  have hS : va_S (fl_A ad 88) s.heap s.heap [] := va_S.rf
  have hl := lv_entry ([.long x1, .int x2]) (n := 3) (Nat.le_of_ble_eq_true rfl)
  rw [lg_entry_eq]
  generalize (lg_sl ([.long x1, .int x2]) ++ List.replicate (3 - (lg_sl ([.long x1, .int x2])).length) Slot.unset).toArray = ls at hl ⊢
  have hl : lv_has ls 3 [(0, .long x1), (2, .int x2)] := hl
  have hG := g_FL_fourBitsAt.eq_1 x1 x2
  refine lv_lload_n hx hb d_FL_fourBitsAt_0 rfl (lv_at hl 0 rfl) ?_
  refine lv_iload_n hx hb d_FL_fourBitsAt_1 rfl (lv_at hl 1 rfl) ?_
  refine lv_lushr (v := j_lushr x1 x2) hx hb d_FL_fourBitsAt_2 rfl ?_
  refine lv_l2i (v := (j_lushr x1 x2).toInt32) hx hb d_FL_fourBitsAt_3 rfl ?_
  refine lv_bipush (v := 15) hx hb d_FL_fourBitsAt_4 (by decide) ?_
  refine lv_iand hx hb d_FL_fourBitsAt_6 ?_
  exact fl_iret hx hb hr hlocks hP hS hG.symm rfl d_FL_fourBitsAt_7
theorem hd_FL_fourBitsAt : y_FL_fourBitsAt.cls ≠ "java/lang/invoke/MethodHandle" ∧ y_FL_fourBitsAt.cls ≠ "java/lang/invoke/VarHandle" ∧ (parseMethodDescriptor y_FL_fourBitsAt.desc).map (fun d => d.parameters.length) = some 2 := by decide +kernel
theorem kv_FL_fourBitsAt {R : Room} {s : State} {args : Array Value} {c0 : Cond} {own : String} {index : Nat} (hts : ∀ w ∈ c0 :: gw, w.before args s = true) (hl : (Cond.methodLink own index y_FL_fourBitsAt).before args s = true) (hR : 0 + 1 ≤ R.frames ∧ 8 + (3 + 11) + 0 ≤ R.locals) : CallB R s args own index y_FL_fourBitsAt b_FL_fourBitsAt 3 (some .int) w_FL_fourBitsAt ({ frames := 0, cells := 0, slots := 0, locals := 0 } : Room) 0 0 2 ∧ (Cond.static y_FL_fourBitsAt).before args s = true := ⟨callB_of 2 hts (gw_in tw_401) rfl rfl rfl (hts _ (List.mem_cons_of_mem _ tw_1)) hl hd_FL_fourBitsAt hR, hts _ (List.mem_cons_of_mem _ tw_400)⟩
theorem kn_FL_fourBitsAt {R : Room} {s : State} {args : Array Value} {c0 : Cond} {own : String} {index : Nat} (hts : ∀ w ∈ c0 :: gw, w.before args s = true) {host : String} (hl : va_Nw (.methodLinkNest own index y_FL_fourBitsAt host) s) (hR : 0 + 1 ≤ R.frames ∧ 8 + (3 + 11) + 0 ≤ R.locals) : va_CN R s args own index y_FL_fourBitsAt host b_FL_fourBitsAt 3 (some .int) w_FL_fourBitsAt ({ frames := 0, cells := 0, slots := 0, locals := 0 } : Room) 0 0 2 ∧ (Cond.static y_FL_fourBitsAt).before args s = true ∧ True := ⟨va_cnB 2 hts (gw_in tw_401) rfl rfl rfl hl (hts _ (List.mem_cons_of_mem _ tw_1)) hd_FL_fourBitsAt hR, hts _ (List.mem_cons_of_mem _ tw_400), trivial⟩
