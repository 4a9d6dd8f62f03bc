/-! contracts of the reference: 33.yp1 -/
def g_MD_write (M : fl_M) (x1 : Int32) (x2 : Int32) (x3 : Int32) : Int32 × fl_M :=
  if (g_MD_outside x1 3) = 0 then (if (g_MD_outside x2 15) = 0 then ((1, (fl_i M 8 (((16 * x1) + x2).toNatClampNeg) x3))) else ((0, M))) else ((0, M))
set_option maxHeartbeats 400000 in
set_option maxRecDepth 100000 in
theorem c_MD_write (l : Launch) {D : va_G} {ad : Nat → Nat} {cA : Nat → ClassId} (hi : fl_inj ad 41) (M : fl_M) (x1 : Int32) (x2 : Int32) (x3 : Int32) : Met l y_MD_write w_MD_write ({ frames := 1, cells := 0, slots := 0, locals := 21 } : Room) (va_Pc [.ref (ad 0), .int x1, .int x2, .int x3] (fl_B D cls (yt cA) ([] : fl_L) ([] : fl_FN) ([] : fl_MN) ad (yc ad cA) 41 M)) (va_Qi (fun r M' => r = (g_MD_write M x1 x2 x3).1 ∧ M' = ((g_MD_write M x1 x2 x3).2)) (fl_E D cls ad (yc ad cA) 41) (fl_A ad 41)) 0 0 (fl_A ad 41) := by
  refine Met.ofW (cc := b_MD_write) (maxL := 4) (ret := (some .boolean)) (by decide) rfl ?_
  intro p e s m args below meth c s₁ B hml hv
  obtain ⟨rfl, hP, hK, hSt, hN⟩ := hv
  have hx := B.exec
  have hb := B.bytes
  have hr := B.returns
  have hts := atoms_spec (ws := w_MD_write) B.pre
  have hown : s.vm.findClass "FarLinkModel" = some m.cls := findClass_of_methodNamed B.named
  have hlocks := B.notSynchronized
  have hS : va_S (fl_A ad 41) s.heap s.heap [] := va_S.rf
  have hl := lv_entry ([.ref (ad 0), .int x1, .int x2, .int x3]) (n := 4) (Nat.le_of_ble_eq_true rfl)
  rw [lg_entry_eq]
  generalize (lg_sl ([.ref (ad 0), .int x1, .int x2, .int x3]) ++ List.replicate (4 - (lg_sl ([.ref (ad 0), .int x1, .int x2, .int x3])).length) Slot.unset).toArray = ls at hl ⊢
  have hl : lv_has ls 4 [(0, .ref (ad 0)), (1, .int x1), (2, .int x2), (3, .int x3)] := hl
  have hG := g_MD_write.eq_1 M x1 x2 x3
  refine lv_iload_n hx hb d_MD_write_0 rfl (lv_at hl 1 rfl) ?_
  refine lv_iconst (v := 3) hx hb d_MD_write_1 (by decide) ?_
  refine fl_calli (va_runS (As := [.int x1, .int 3]) (rest := []) ⟨hx, hb, hml, hown, hts⟩ (c_MD_outside l hi M x1 3) (kv_MD_outside hts (hts _ (List.mem_cons_of_mem _ tw_990)) ⟨Nat.le_of_ble_eq_true rfl, Nat.le_of_ble_eq_true rfl⟩) (fl_preS hK hSt hN hS hP) rfl rfl hl.1 rfl (lv_room (Nat.le_of_ble_eq_true rfl)) d_MD_write_2 ⟨Nat.zero_le _, Nat.zero_le _⟩) hS (fun H locs hP hS => ?_)
  refine lv_if_ne (tgt := 17) hx hb d_MD_write_5 (by decide) (fun h_1 => ?_) (fun h_1 => ?_)
  ·
    have hG := hG.trans (if_neg h_1)
    refine lv_iconst (v := 0) hx hb d_MD_write_17 (by decide) ?_
    exact fl_zret hx hb hr hlocks hP hS (rfl) (congrArg Prod.fst hG).symm (by rw [hG]) d_MD_write_18
  ·
    have hG := hG.trans (if_pos h_1)
    refine lv_iload_n hx hb d_MD_write_8 rfl (lv_at hl 2 rfl) ?_
    refine lv_bipush (v := 15) hx hb d_MD_write_9 (by decide) ?_
    refine fl_calli (va_runS (As := [.int x2, .int 15]) (rest := []) ⟨hx, hb, hml, hown, hts⟩ (c_MD_outside l hi M x2 15) (kv_MD_outside hts (hts _ (List.mem_cons_of_mem _ tw_990)) ⟨Nat.le_of_ble_eq_true rfl, Nat.le_of_ble_eq_true rfl⟩) (fl_preS hK hSt hN hS hP) rfl rfl hl.1 rfl (lv_room (Nat.le_of_ble_eq_true rfl)) d_MD_write_11 ⟨Nat.zero_le _, Nat.zero_le _⟩) hS (fun H locs hP hS => ?_)
    refine lv_if_eq (tgt := 19) hx hb d_MD_write_14 (by decide) (fun h_2 => ?_) (fun h_2 => ?_)
    ·
      have hG := hG.trans (if_pos h_2)
      refine lv_aload_n hx hb d_MD_write_19 rfl (lv_at hl 0 rfl) ?_
      refine gg_MD (k := 12) (v := .ref (ad 8)) hx hb hts hown hK hP  (hts _ (List.mem_cons_of_mem _ tw_793)) (by decide) rfl rfl d_MD_write_20 ?_
      refine lv_bipush (v := 16) hx hb d_MD_write_23 (by decide) ?_
      refine lv_iload_n hx hb d_MD_write_25 rfl (lv_at hl 1 rfl) ?_
      refine lv_imul hx hb d_MD_write_26 ?_
      refine lv_iload_n hx hb d_MD_write_27 rfl (lv_at hl 2 rfl) ?_
      refine lv_iadd hx hb d_MD_write_28 ?_
      refine lv_iload_n hx hb d_MD_write_29 rfl (lv_at hl 3 rfl) ?_
      refine sg_Afile hx hb hK hi hP hS  (in_mul4 (out_vp (b := 3) (n := 3) rfl (by decide) (by assumption)) (out_vp (b := 15) (n := 15) rfl (by decide) (by assumption))) d_MD_write_30 (fun H locs hP hS => ?_)
      refine lv_iconst (v := 1) hx hb d_MD_write_31 (by decide) ?_
      exact fl_zret hx hb hr hlocks hP hS (rfl) (congrArg Prod.fst hG).symm (by rw [hG]) d_MD_write_32
    ·
      have hG := hG.trans (if_neg h_2)
      refine lv_iconst (v := 0) hx hb d_MD_write_17 (by decide) ?_
      exact fl_zret hx hb hr hlocks hP hS (rfl) (congrArg Prod.fst hG).symm (by rw [hG]) d_MD_write_18
theorem z_MD_write (M : fl_M) (x1 : Int32) (x2 : Int32) (x3 : Int32) : (g_MD_write M x1 x2 x3).1 &&& 1 = (g_MD_write M x1 x2 x3).1 := by
  unfold g_MD_write
  repeat (first | split | with_reducible exact z_MD_outside .. | (show (0 : Int32) &&& 1 = 0; rfl) | (show (1 : Int32) &&& 1 = 1; rfl) | rfl)
theorem hd_MD_write : y_MD_write.cls ≠ "java/lang/invoke/MethodHandle" ∧ y_MD_write.cls ≠ "java/lang/invoke/VarHandle" ∧ (parseMethodDescriptor y_MD_write.desc).map (fun d => d.parameters.length) = some 3 := by decide +kernel
theorem kv_MD_write {R : Room} {s : State} {args : Array Value} {c0 : Cond} {own : String} {index : Nat} (hts : ∀ w ∈ c0 :: gw, w.before args s = true) (hl : (Cond.methodLink own index y_MD_write).before args s = true) (hR : 1 + 1 ≤ R.frames ∧ 8 + (4 + 11) + 21 ≤ R.locals) : CallW R s args own "FarLinkModel" index y_MD_write b_MD_write 4 (some .boolean) w_MD_write ({ frames := 1, cells := 0, slots := 0, locals := 21 } : Room) 0 0 3 := ⟨callB_of 3 hts (gw_in tw_989) rfl rfl rfl (hts _ (List.mem_cons_of_mem _ tw_10)) hl hd_MD_write hR, hts _ (List.mem_cons_of_mem _ tw_987), hts _ (List.mem_cons_of_mem _ tw_988)⟩
def g_MD_running (M : fl_M) (x1 : Int32) : Int32 :=
  if x1 < 0 then (0) else (if (M.1 0 13) ≤ x1 then (0) else (if (M.1 13 x1.toNatClampNeg) = 0 then (1) else (0)))
set_option maxHeartbeats 400000 in
set_option maxRecDepth 100000 in
theorem c_MD_running (l : Launch) {D : va_G} {ad : Nat → Nat} {cA : Nat → ClassId} (hi : fl_inj ad 41) (M : fl_M) (x1 : Int32) (hbg : nn (M.1 0 13)) (hb16 : (M.1 0 13).toNatClampNeg ≤ 16) : Met l y_MD_running w_MD_running ({ frames := 0, cells := 0, slots := 0, locals := 0 } : Room) (va_Pc [.ref (ad 0), .int x1] (fl_B D cls (yt cA) ([] : fl_L) ([] : fl_FN) ([] : fl_MN) ad (yc ad cA) 41 M)) (va_Qi (fun r M' => r = (g_MD_running M x1) ∧ M' = M) (fl_E D cls ad (yc ad cA) 41) (fl_A ad 41)) 0 0 (fl_A ad 41) := by
  refine Met.ofW (cc := b_MD_running) (maxL := 2) (ret := (some .boolean)) (by decide) rfl ?_
  intro p e s m args below meth c s₁ B hml hv
  obtain ⟨rfl, hP, hK, hSt, hN⟩ := hv
  have hx := B.exec
  have hb := B.bytes
  have hr := B.returns
  have hts := atoms_spec (ws := w_MD_running) B.pre
  have hown : s.vm.findClass "FarLinkModel" = some m.cls := findClass_of_methodNamed B.named
  have hlocks := B.notSynchronized
  have hS : va_S (fl_A ad 41) s.heap s.heap [] := va_S.rf
  have hl := lv_entry ([.ref (ad 0), .int x1]) (n := 2) (Nat.le_of_ble_eq_true rfl)
  rw [lg_entry_eq]
  generalize (lg_sl ([.ref (ad 0), .int x1]) ++ List.replicate (2 - (lg_sl ([.ref (ad 0), .int x1])).length) Slot.unset).toArray = ls at hl ⊢
  have hl : lv_has ls 2 [(0, .ref (ad 0)), (1, .int x1)] := hl
  have hG := g_MD_running.eq_1 M x1
  refine lv_iload_n hx hb d_MD_running_0 rfl (lv_at hl 1 rfl) ?_
  refine lv_if_lt (tgt := 25) hx hb d_MD_running_1 (by decide) (fun h_1 => ?_) (fun h_1 => ?_)
  ·
    have hG := hG.trans (if_pos h_1)
    refine lv_iconst (v := 0) hx hb d_MD_running_25 (by decide) ?_
    exact fl_zret hx hb hr hlocks hP hS (rfl) hG.symm rfl d_MD_running_26
  ·
    have hG := hG.trans (if_neg h_1)
    refine lv_iload_n hx hb d_MD_running_4 rfl (lv_at hl 1 rfl) ?_
    refine lv_aload_n hx hb d_MD_running_5 rfl (lv_at hl 0 rfl) ?_
    refine gg_MD (k := 13) (v := .int (M.1 0 13)) hx hb hts hown hK hP  (hts _ (List.mem_cons_of_mem _ tw_794)) (by decide) rfl rfl d_MD_running_6 ?_
    refine lv_icmp_ge (tgt := 25) hx hb d_MD_running_9 (by decide) (fun h_2 => ?_) (fun h_2 => ?_)
    ·
      have hG := hG.trans (if_pos h_2)
      refine lv_iconst (v := 0) hx hb d_MD_running_25 (by decide) ?_
      exact fl_zret hx hb hr hlocks hP hS (rfl) hG.symm rfl d_MD_running_26
    ·
      have hG := hG.trans (if_neg h_2)
      refine lv_aload_n hx hb d_MD_running_12 rfl (lv_at hl 0 rfl) ?_
      refine gg_MD (k := 18) (v := .ref (ad 13)) hx hb hts hown hK hP  (hts _ (List.mem_cons_of_mem _ tw_799)) (by decide) rfl rfl d_MD_running_13 ?_
      refine lv_iload_n hx hb d_MD_running_16 rfl (lv_at hl 1 rfl) ?_
      refine ag_Aended (v := .int (M.1 13 x1.toNatClampNeg)) hx hb hK hP  (cnt_in hbg hb16 (by assumption) (by assumption)) rfl d_MD_running_17 ?_
      refine lv_if_ne (tgt := 25) hx hb d_MD_running_18 (by decide) (fun h_3 => ?_) (fun h_3 => ?_)
      ·
        have hG := hG.trans (if_neg h_3)
        refine lv_iconst (v := 0) hx hb d_MD_running_25 (by decide) ?_
        exact fl_zret hx hb hr hlocks hP hS (rfl) hG.symm rfl d_MD_running_26
      ·
        have hG := hG.trans (if_pos h_3)
        refine lv_iconst (v := 1) hx hb d_MD_running_21 (by decide) ?_
        refine lv_goto (tgt := 26) hx hb d_MD_running_22 (by decide) ?_
        exact fl_zret hx hb hr hlocks hP hS (rfl) hG.symm rfl d_MD_running_26
theorem z_MD_running (M : fl_M) (x1 : Int32) : g_MD_running M x1 &&& 1 = g_MD_running M x1 := by
  unfold g_MD_running
  repeat (first | split | (show (0 : Int32) &&& 1 = 0; rfl) | (show (1 : Int32) &&& 1 = 1; rfl) | rfl)
theorem hd_MD_running : y_MD_running.cls ≠ "java/lang/invoke/MethodHandle" ∧ y_MD_running.cls ≠ "java/lang/invoke/VarHandle" ∧ (parseMethodDescriptor y_MD_running.desc).map (fun d => d.parameters.length) = some 1 := by decide +kernel
theorem kv_MD_running {R : Room} {s : State} {args : Array Value} {c0 : Cond} {own : String} {index : Nat} (hts : ∀ w ∈ c0 :: gw, w.before args s = true) (hl : (Cond.methodLink own index y_MD_running).before args s = true) (hR : 0 + 1 ≤ R.frames ∧ 8 + (2 + 11) + 0 ≤ R.locals) : CallW R s args own "FarLinkModel" index y_MD_running b_MD_running 2 (some .boolean) w_MD_running ({ frames := 0, cells := 0, slots := 0, locals := 0 } : Room) 0 0 1 := ⟨callB_of 1 hts (gw_in tw_1006) rfl rfl rfl (hts _ (List.mem_cons_of_mem _ tw_10)) hl hd_MD_running hR, hts _ (List.mem_cons_of_mem _ tw_1005), hts _ (List.mem_cons_of_mem _ ps_MD_running)⟩
theorem run_in {M : fl_M} {x : Int32} (hbg : nn (M.1 0 13)) (hb16 : (M.1 0 13).toNatClampNeg ≤ 16) (h : ¬ g_MD_running M x = 0) : vp_in x 16 := by
  unfold g_MD_running at h
  by_cases h1 : x < 0
  · rw [if_pos h1] at h; exact absurd rfl h
  · rw [if_neg h1] at h
    by_cases h2 : M.1 0 13 ≤ x
    · rw [if_pos h2] at h; exact absurd rfl h
    · exact cnt_in hbg hb16 h1 h2
def g_MD_taken (M : fl_M) (x1 : Int32) (x2 : Int32) : Int32 :=
  if (g_MD_outside x1 15) = 0 then (if (g_MD_outside x2 15) = 0 then (M.1 28 (((16 * x1) + x2).toNatClampNeg)) else (0)) else (0)
set_option maxHeartbeats 400000 in
set_option maxRecDepth 100000 in
theorem c_MD_taken (l : Launch) {D : va_G} {ad : Nat → Nat} {cA : Nat → ClassId} (hi : fl_inj ad 41) (M : fl_M) (x1 : Int32) (x2 : Int32) : Met l y_MD_taken w_MD_taken ({ frames := 1, cells := 0, slots := 0, locals := 21 } : Room) (va_Pc [.ref (ad 0), .int x1, .int x2] (fl_B D cls (yt cA) ([] : fl_L) ([] : fl_FN) ([] : fl_MN) ad (yc ad cA) 41 M)) (va_Qi (fun r M' => r = (g_MD_taken M x1 x2) ∧ M' = M) (fl_E D cls ad (yc ad cA) 41) (fl_A ad 41)) 0 0 (fl_A ad 41) := by
  refine Met.ofW (cc := b_MD_taken) (maxL := 3) (ret := (some .int)) (by decide) rfl ?_
  intro p e s m args below meth c s₁ B hml hv
  obtain ⟨rfl, hP, hK, hSt, hN⟩ := hv
  have hx := B.exec
  have hb := B.bytes
  have hr := B.returns
  have hts := atoms_spec (ws := w_MD_taken) B.pre
  have hown : s.vm.findClass "FarLinkModel" = some m.cls := findClass_of_methodNamed B.named
  have hlocks := B.notSynchronized
  have hS : va_S (fl_A ad 41) s.heap s.heap [] := va_S.rf
  have hl := lv_entry ([.ref (ad 0), .int x1, .int x2]) (n := 3) (Nat.le_of_ble_eq_true rfl)
  rw [lg_entry_eq]
  generalize (lg_sl ([.ref (ad 0), .int x1, .int x2]) ++ List.replicate (3 - (lg_sl ([.ref (ad 0), .int x1, .int x2])).length) Slot.unset).toArray = ls at hl ⊢
  have hl : lv_has ls 3 [(0, .ref (ad 0)), (1, .int x1), (2, .int x2)] := hl
  have hG := g_MD_taken.eq_1 M x1 x2
  refine lv_iload_n hx hb d_MD_taken_0 rfl (lv_at hl 1 rfl) ?_
  refine lv_bipush (v := 15) hx hb d_MD_taken_1 (by decide) ?_
  refine fl_calli (va_runS (As := [.int x1, .int 15]) (rest := []) ⟨hx, hb, hml, hown, hts⟩ (c_MD_outside l hi M x1 15) (kv_MD_outside hts (hts _ (List.mem_cons_of_mem _ tw_990)) ⟨Nat.le_of_ble_eq_true rfl, Nat.le_of_ble_eq_true rfl⟩) (fl_preS hK hSt hN hS hP) rfl rfl hl.1 rfl (lv_room (Nat.le_of_ble_eq_true rfl)) d_MD_taken_3 ⟨Nat.zero_le _, Nat.zero_le _⟩) hS (fun H locs hP hS => ?_)
  refine lv_if_ne (tgt := 18) hx hb d_MD_taken_6 (by decide) (fun h_1 => ?_) (fun h_1 => ?_)
  ·
    have hG := hG.trans (if_neg h_1)
    refine lv_iconst (v := 0) hx hb d_MD_taken_18 (by decide) ?_
    refine lv_goto (tgt := 33) hx hb d_MD_taken_19 (by decide) ?_
    exact fl_iret hx hb hr hlocks hP hS hG.symm rfl d_MD_taken_33
  ·
    have hG := hG.trans (if_pos h_1)
    refine lv_iload_n hx hb d_MD_taken_9 rfl (lv_at hl 2 rfl) ?_
    refine lv_bipush (v := 15) hx hb d_MD_taken_10 (by decide) ?_
    refine fl_calli (va_runS (As := [.int x2, .int 15]) (rest := []) ⟨hx, hb, hml, hown, hts⟩ (c_MD_outside l hi M x2 15) (kv_MD_outside hts (hts _ (List.mem_cons_of_mem _ tw_990)) ⟨Nat.le_of_ble_eq_true rfl, Nat.le_of_ble_eq_true rfl⟩) (fl_preS hK hSt hN hS hP) rfl rfl hl.1 rfl (lv_room (Nat.le_of_ble_eq_true rfl)) d_MD_taken_12 ⟨Nat.zero_le _, Nat.zero_le _⟩) hS (fun H locs hP hS => ?_)
    refine lv_if_eq (tgt := 22) hx hb d_MD_taken_15 (by decide) (fun h_2 => ?_) (fun h_2 => ?_)
    ·
      have hG := hG.trans (if_pos h_2)
      refine lv_aload_n hx hb d_MD_taken_22 rfl (lv_at hl 0 rfl) ?_
      refine gg_MD (k := 44) (v := .ref (ad 28)) hx hb hts hown hK hP  (hts _ (List.mem_cons_of_mem _ tw_825)) (by decide) rfl rfl d_MD_taken_23 ?_
      refine lv_bipush (v := 16) hx hb d_MD_taken_26 (by decide) ?_
      refine lv_iload_n hx hb d_MD_taken_28 rfl (lv_at hl 1 rfl) ?_
      refine lv_imul hx hb d_MD_taken_29 ?_
      refine lv_iload_n hx hb d_MD_taken_30 rfl (lv_at hl 2 rfl) ?_
      refine lv_iadd hx hb d_MD_taken_31 ?_
      refine ag_Aword (v := .int (M.1 28 (((16 * x1) + x2).toNatClampNeg))) hx hb hK hP  (in_mul (out_vp (b := 15) (n := 15) rfl (by decide) (by assumption)) (out_vp (b := 15) (n := 15) rfl (by decide) (by assumption))) rfl d_MD_taken_32 ?_
      exact fl_iret hx hb hr hlocks hP hS hG.symm rfl d_MD_taken_33
    ·
      have hG := hG.trans (if_neg h_2)
      refine lv_iconst (v := 0) hx hb d_MD_taken_18 (by decide) ?_
      refine lv_goto (tgt := 33) hx hb d_MD_taken_19 (by decide) ?_
      exact fl_iret hx hb hr hlocks hP hS hG.symm rfl d_MD_taken_33
theorem hd_MD_taken : y_MD_taken.cls ≠ "java/lang/invoke/MethodHandle" ∧ y_MD_taken.cls ≠ "java/lang/invoke/VarHandle" ∧ (parseMethodDescriptor y_MD_taken.desc).map (fun d => d.parameters.length) = some 2 := by decide +kernel
theorem kv_MD_taken {R : Room} {s : State} {args : Array Value} {c0 : Cond} {own : String} {index : Nat} (hts : ∀ w ∈ c0 :: gw, w.before args s = true) (hl : (Cond.methodLink own index y_MD_taken).before args s = true) (hR : 1 + 1 ≤ R.frames ∧ 8 + (3 + 11) + 21 ≤ R.locals) : CallW R s args own "FarLinkModel" index y_MD_taken b_MD_taken 3 (some .int) w_MD_taken ({ frames := 1, cells := 0, slots := 0, locals := 21 } : Room) 0 0 2 := ⟨callB_of 2 hts (gw_in tw_1149) rfl rfl rfl (hts _ (List.mem_cons_of_mem _ tw_10)) hl hd_MD_taken hR, hts _ (List.mem_cons_of_mem _ tw_1147), hts _ (List.mem_cons_of_mem _ tw_1148)⟩
def g_MD_missing (M : fl_M) (x1 : Int32) : Int32 :=
  if (g_MD_outside x1 15) = 0 then (if (M.1 25 x1.toNatClampNeg) = 0 then ((-1)) else (((M.1 27 x1.toNatClampNeg) ^^^ (-1)) &&& 262143)) else ((-1))
set_option maxHeartbeats 400000 in
set_option maxRecDepth 100000 in
theorem c_MD_missing (l : Launch) {D : va_G} {ad : Nat → Nat} {cA : Nat → ClassId} (hi : fl_inj ad 41) (M : fl_M) (x1 : Int32) : Met l y_MD_missing w_MD_missing ({ frames := 1, cells := 0, slots := 0, locals := 21 } : Room) (va_Pc [.ref (ad 0), .int x1] (fl_B D cls (yt cA) ([] : fl_L) ([] : fl_FN) ([] : fl_MN) ad (yc ad cA) 41 M)) (va_Qi (fun r M' => r = (g_MD_missing M x1) ∧ M' = M) (fl_E D cls ad (yc ad cA) 41) (fl_A ad 41)) 0 0 (fl_A ad 41) := by
  refine Met.ofW (cc := b_MD_missing) (maxL := 2) (ret := (some .int)) (by decide) rfl ?_
  intro p e s m args below meth c s₁ B hml hv
  obtain ⟨rfl, hP, hK, hSt, hN⟩ := hv
  have hx := B.exec
  have hb := B.bytes
  have hr := B.returns
  have hts := atoms_spec (ws := w_MD_missing) B.pre
  have hown : s.vm.findClass "FarLinkModel" = some m.cls := findClass_of_methodNamed B.named
  have hlocks := B.notSynchronized
  have hS : va_S (fl_A ad 41) s.heap s.heap [] := va_S.rf
  have hl := lv_entry ([.ref (ad 0), .int x1]) (n := 2) (Nat.le_of_ble_eq_true rfl)
  rw [lg_entry_eq]
  generalize (lg_sl ([.ref (ad 0), .int x1]) ++ List.replicate (2 - (lg_sl ([.ref (ad 0), .int x1])).length) Slot.unset).toArray = ls at hl ⊢
  have hl : lv_has ls 2 [(0, .ref (ad 0)), (1, .int x1)] := hl
  have hG := g_MD_missing.eq_1 M x1
  refine lv_iload_n hx hb d_MD_missing_0 rfl (lv_at hl 1 rfl) ?_
  refine lv_bipush (v := 15) hx hb d_MD_missing_1 (by decide) ?_
  refine fl_calli (va_runS (As := [.int x1, .int 15]) (rest := []) ⟨hx, hb, hml, hown, hts⟩ (c_MD_outside l hi M x1 15) (kv_MD_outside hts (hts _ (List.mem_cons_of_mem _ tw_990)) ⟨Nat.le_of_ble_eq_true rfl, Nat.le_of_ble_eq_true rfl⟩) (fl_preS hK hSt hN hS hP) rfl rfl hl.1 rfl (lv_room (Nat.le_of_ble_eq_true rfl)) d_MD_missing_3 ⟨Nat.zero_le _, Nat.zero_le _⟩) hS (fun H locs hP hS => ?_)
  refine lv_if_ne (tgt := 18) hx hb d_MD_missing_6 (by decide) (fun h_1 => ?_) (fun h_1 => ?_)
  ·
    have hG := hG.trans (if_neg h_1)
    refine lv_iconst (v := -1) hx hb d_MD_missing_18 (by decide) ?_
    refine lv_goto (tgt := 34) hx hb d_MD_missing_19 (by decide) ?_
    exact fl_iret hx hb hr hlocks hP hS hG.symm rfl d_MD_missing_34
  ·
    have hG := hG.trans (if_pos h_1)
    refine lv_aload_n hx hb d_MD_missing_9 rfl (lv_at hl 0 rfl) ?_
    refine gg_MD (k := 41) (v := .ref (ad 25)) hx hb hts hown hK hP  (hts _ (List.mem_cons_of_mem _ tw_822)) (by decide) rfl rfl d_MD_missing_10 ?_
    refine lv_iload_n hx hb d_MD_missing_13 rfl (lv_at hl 1 rfl) ?_
    refine ag_Astage (v := .int (M.1 25 x1.toNatClampNeg)) hx hb hK hP  (out_vp (b := 15) (n := 15) rfl (by decide) (by assumption)) rfl d_MD_missing_14 ?_
    refine lv_if_ne (tgt := 22) hx hb d_MD_missing_15 (by decide) (fun h_2 => ?_) (fun h_2 => ?_)
    ·
      have hG := hG.trans (if_neg h_2)
      refine lv_aload_n hx hb d_MD_missing_22 rfl (lv_at hl 0 rfl) ?_
      refine gg_MD (k := 43) (v := .ref (ad 27)) hx hb hts hown hK hP  (hts _ (List.mem_cons_of_mem _ tw_824)) (by decide) rfl rfl d_MD_missing_23 ?_
      refine lv_iload_n hx hb d_MD_missing_26 rfl (lv_at hl 1 rfl) ?_
      refine ag_Agot (v := .int (M.1 27 x1.toNatClampNeg)) hx hb hK hP  (out_vp (b := 15) (n := 15) rfl (by decide) (by assumption)) rfl d_MD_missing_27 ?_
      refine lv_iconst (v := -1) hx hb d_MD_missing_28 (by decide) ?_
      refine lv_ixor hx hb d_MD_missing_29 ?_
      refine lv_ldcw (v := 262143) hx hb hown (hts _ (List.mem_cons_of_mem _ tw_1154)) d_MD_missing_30 ?_
      refine lv_iand hx hb d_MD_missing_33 ?_
      exact fl_iret hx hb hr hlocks hP hS hG.symm rfl d_MD_missing_34
    ·
      have hG := hG.trans (if_pos h_2)
      refine lv_iconst (v := -1) hx hb d_MD_missing_18 (by decide) ?_
      refine lv_goto (tgt := 34) hx hb d_MD_missing_19 (by decide) ?_
      exact fl_iret hx hb hr hlocks hP hS hG.symm rfl d_MD_missing_34
theorem hd_MD_missing : y_MD_missing.cls ≠ "java/lang/invoke/MethodHandle" ∧ y_MD_missing.cls ≠ "java/lang/invoke/VarHandle" ∧ (parseMethodDescriptor y_MD_missing.desc).map (fun d => d.parameters.length) = some 1 := by decide +kernel
theorem kv_MD_missing {R : Room} {s : State} {args : Array Value} {c0 : Cond} {own : String} {index : Nat} (hts : ∀ w ∈ c0 :: gw, w.before args s = true) (hl : (Cond.methodLink own index y_MD_missing).before args s = true) (hR : 1 + 1 ≤ R.frames ∧ 8 + (2 + 11) + 21 ≤ R.locals) : CallW R s args own "FarLinkModel" index y_MD_missing b_MD_missing 2 (some .int) w_MD_missing ({ frames := 1, cells := 0, slots := 0, locals := 21 } : Room) 0 0 1 := ⟨callB_of 1 hts (gw_in tw_1153) rfl rfl rfl (hts _ (List.mem_cons_of_mem _ tw_10)) hl hd_MD_missing hR, hts _ (List.mem_cons_of_mem _ tw_1151), hts _ (List.mem_cons_of_mem _ tw_1152)⟩
def g_MD_outage (M : fl_M) (x1 : Int32) (x2 : Int32) : Int32 × fl_M :=
  if (g_MD_outside x2 200) = 0 then (if x1 = 0 then ((1, (fl_i M 4 ((1 : Int32).toNatClampNeg) x2))) else ((1, (fl_i M 4 ((0 : Int32).toNatClampNeg) x2)))) else ((0, M))
set_option maxHeartbeats 400000 in
set_option maxRecDepth 100000 in
theorem c_MD_outage (l : Launch) {D : va_G} {ad : Nat → Nat} {cA : Nat → ClassId} (hi : fl_inj ad 41) (M : fl_M) (x1 : Int32) (x2 : Int32) : Met l y_MD_outage w_MD_outage ({ frames := 1, cells := 0, slots := 0, locals := 21 } : Room) (va_Pc [.ref (ad 0), .int x1, .int x2] (fl_B D cls (yt cA) ([] : fl_L) ([] : fl_FN) ([] : fl_MN) ad (yc ad cA) 41 M)) (va_Qi (fun r M' => r = (g_MD_outage M x1 x2).1 ∧ M' = ((g_MD_outage M x1 x2).2)) (fl_E D cls ad (yc ad cA) 41) (fl_A ad 41)) 0 0 (fl_A ad 41) := by
  refine Met.ofW (cc := b_MD_outage) (maxL := 3) (ret := (some .boolean)) (by decide) rfl ?_
  intro p e s m args below meth c s₁ B hml hv
  obtain ⟨rfl, hP, hK, hSt, hN⟩ := hv
  have hx := B.exec
  have hb := B.bytes
  have hr := B.returns
  have hts := atoms_spec (ws := w_MD_outage) B.pre
  have hown : s.vm.findClass "FarLinkModel" = some m.cls := findClass_of_methodNamed B.named
  have hlocks := B.notSynchronized
  have hS : va_S (fl_A ad 41) s.heap s.heap [] := va_S.rf
  have hl := lv_entry ([.ref (ad 0), .int x1, .int x2]) (n := 3) (Nat.le_of_ble_eq_true rfl)
  rw [lg_entry_eq]
  generalize (lg_sl ([.ref (ad 0), .int x1, .int x2]) ++ List.replicate (3 - (lg_sl ([.ref (ad 0), .int x1, .int x2])).length) Slot.unset).toArray = ls at hl ⊢
  have hl : lv_has ls 3 [(0, .ref (ad 0)), (1, .int x1), (2, .int x2)] := hl
  have hG := g_MD_outage.eq_1 M x1 x2
  refine lv_iload_n hx hb d_MD_outage_0 rfl (lv_at hl 2 rfl) ?_
  refine lv_sipush (v := 200) hx hb d_MD_outage_1 (by decide) ?_
  refine fl_calli (va_runS (As := [.int x2, .int 200]) (rest := []) ⟨hx, hb, hml, hown, hts⟩ (c_MD_outside l hi M x2 200) (kv_MD_outside hts (hts _ (List.mem_cons_of_mem _ tw_990)) ⟨Nat.le_of_ble_eq_true rfl, Nat.le_of_ble_eq_true rfl⟩) (fl_preS hK hSt hN hS hP) rfl rfl hl.1 rfl (lv_room (Nat.le_of_ble_eq_true rfl)) d_MD_outage_4 ⟨Nat.zero_le _, Nat.zero_le _⟩) hS (fun H locs hP hS => ?_)
  refine lv_if_eq (tgt := 12) hx hb d_MD_outage_7 (by decide) (fun h_1 => ?_) (fun h_1 => ?_)
  ·
    have hG := hG.trans (if_pos h_1)
    refine lv_aload_n hx hb d_MD_outage_12 rfl (lv_at hl 0 rfl) ?_
    refine gg_MD (k := 8) (v := .ref (ad 4)) hx hb hts hown hK hP  (hts _ (List.mem_cons_of_mem _ tw_789)) (by decide) rfl rfl d_MD_outage_13 ?_
    refine lv_iload_n hx hb d_MD_outage_16 rfl (lv_at hl 1 rfl) ?_
    refine lv_if_eq (tgt := 24) hx hb d_MD_outage_17 (by decide) (fun h_2 => ?_) (fun h_2 => ?_)
    ·
      have hG := hG.trans (if_pos h_2)
      refine lv_iconst (v := 1) hx hb d_MD_outage_24 (by decide) ?_
      refine lv_iload_n hx hb d_MD_outage_25 rfl (lv_at hl 2 rfl) ?_
      refine sg_Aoutages hx hb hK hi hP hS  (vp_in_nI (n := 1) (by decide) (by decide)) d_MD_outage_26 (fun H locs hP hS => ?_)
      refine lv_iconst (v := 1) hx hb d_MD_outage_27 (by decide) ?_
      exact fl_zret hx hb hr hlocks hP hS (rfl) (congrArg Prod.fst hG).symm (by rw [hG]) d_MD_outage_28
    ·
      have hG := hG.trans (if_neg h_2)
      refine lv_iconst (v := 0) hx hb d_MD_outage_20 (by decide) ?_
      refine lv_goto (tgt := 25) hx hb d_MD_outage_21 (by decide) ?_
      refine lv_iload_n hx hb d_MD_outage_25 rfl (lv_at hl 2 rfl) ?_
      refine sg_Aoutages hx hb hK hi hP hS  (vp_in_nI (n := 0) (by decide) (by decide)) d_MD_outage_26 (fun H locs hP hS => ?_)
      refine lv_iconst (v := 1) hx hb d_MD_outage_27 (by decide) ?_
      exact fl_zret hx hb hr hlocks hP hS (rfl) (congrArg Prod.fst hG).symm (by rw [hG]) d_MD_outage_28
  ·
    have hG := hG.trans (if_neg h_1)
    refine lv_iconst (v := 0) hx hb d_MD_outage_10 (by decide) ?_
    exact fl_zret hx hb hr hlocks hP hS (rfl) (congrArg Prod.fst hG).symm (by rw [hG]) d_MD_outage_11
theorem z_MD_outage (M : fl_M) (x1 : Int32) (x2 : Int32) : (g_MD_outage M x1 x2).1 &&& 1 = (g_MD_outage M x1 x2).1 := by
  unfold g_MD_outage
  repeat (first | split | with_reducible exact z_MD_outside .. | (show (0 : Int32) &&& 1 = 0; rfl) | (show (1 : Int32) &&& 1 = 1; rfl) | rfl)
theorem hd_MD_outage : y_MD_outage.cls ≠ "java/lang/invoke/MethodHandle" ∧ y_MD_outage.cls ≠ "java/lang/invoke/VarHandle" ∧ (parseMethodDescriptor y_MD_outage.desc).map (fun d => d.parameters.length) = some 2 := by decide +kernel
theorem kv_MD_outage {R : Room} {s : State} {args : Array Value} {c0 : Cond} {own : String} {index : Nat} (hts : ∀ w ∈ c0 :: gw, w.before args s = true) (hl : (Cond.methodLink own index y_MD_outage).before args s = true) (hR : 1 + 1 ≤ R.frames ∧ 8 + (3 + 11) + 21 ≤ R.locals) : CallW R s args own "FarLinkModel" index y_MD_outage b_MD_outage 3 (some .boolean) w_MD_outage ({ frames := 1, cells := 0, slots := 0, locals := 21 } : Room) 0 0 2 := ⟨callB_of 2 hts (gw_in tw_1022) rfl rfl rfl (hts _ (List.mem_cons_of_mem _ tw_10)) hl hd_MD_outage hR, hts _ (List.mem_cons_of_mem _ tw_1020), hts _ (List.mem_cons_of_mem _ tw_1021)⟩
def g_MD_sent (M : fl_M) (x1 : Int32) : Int32 :=
  if x1 = 0 then (M.1 5 ((1 : Int32).toNatClampNeg)) else (M.1 5 ((0 : Int32).toNatClampNeg))
set_option maxHeartbeats 400000 in
set_option maxRecDepth 100000 in
theorem c_MD_sent (l : Launch) {D : va_G} {ad : Nat → Nat} {cA : Nat → ClassId} (hi : fl_inj ad 41) (M : fl_M) (x1 : Int32) : Met l y_MD_sent w_MD_sent ({ frames := 0, cells := 0, slots := 0, locals := 0 } : Room) (va_Pc [.ref (ad 0), .int x1] (fl_B D cls (yt cA) ([] : fl_L) ([] : fl_FN) ([] : fl_MN) ad (yc ad cA) 41 M)) (va_Qi (fun r M' => r = (g_MD_sent M x1) ∧ M' = M) (fl_E D cls ad (yc ad cA) 41) (fl_A ad 41)) 0 0 (fl_A ad 41) := by
  refine Met.ofW (cc := b_MD_sent) (maxL := 2) (ret := (some .int)) (by decide) rfl ?_
  intro p e s m args below meth c s₁ B hml hv
  obtain ⟨rfl, hP, hK, hSt, hN⟩ := hv
  have hx := B.exec
  have hb := B.bytes
  have hr := B.returns
  have hts := atoms_spec (ws := w_MD_sent) B.pre
  have hown : s.vm.findClass "FarLinkModel" = some m.cls := findClass_of_methodNamed B.named
  have hlocks := B.notSynchronized
  have hS : va_S (fl_A ad 41) s.heap s.heap [] := va_S.rf
  have hl := lv_entry ([.ref (ad 0), .int x1]) (n := 2) (Nat.le_of_ble_eq_true rfl)
  rw [lg_entry_eq]
  generalize (lg_sl ([.ref (ad 0), .int x1]) ++ List.replicate (2 - (lg_sl ([.ref (ad 0), .int x1])).length) Slot.unset).toArray = ls at hl ⊢
  have hl : lv_has ls 2 [(0, .ref (ad 0)), (1, .int x1)] := hl
  have hG := g_MD_sent.eq_1 M x1
  refine lv_aload_n hx hb d_MD_sent_0 rfl (lv_at hl 0 rfl) ?_
  refine gg_MD (k := 9) (v := .ref (ad 5)) hx hb hts hown hK hP  (hts _ (List.mem_cons_of_mem _ tw_790)) (by decide) rfl rfl d_MD_sent_1 ?_
  refine lv_iload_n hx hb d_MD_sent_4 rfl (lv_at hl 1 rfl) ?_
  refine lv_if_eq (tgt := 12) hx hb d_MD_sent_5 (by decide) (fun h_1 => ?_) (fun h_1 => ?_)
  ·
    have hG := hG.trans (if_pos h_1)
    refine lv_iconst (v := 1) hx hb d_MD_sent_12 (by decide) ?_
    refine ag_Asents (v := .int (M.1 5 ((1 : Int32).toNatClampNeg))) hx hb hK hP  (vp_in_nI (n := 1) (by decide) (by decide)) rfl d_MD_sent_13 ?_
    exact fl_iret hx hb hr hlocks hP hS hG.symm rfl d_MD_sent_14
  ·
    have hG := hG.trans (if_neg h_1)
    refine lv_iconst (v := 0) hx hb d_MD_sent_8 (by decide) ?_
    refine lv_goto (tgt := 13) hx hb d_MD_sent_9 (by decide) ?_
    refine ag_Asents (v := .int (M.1 5 ((0 : Int32).toNatClampNeg))) hx hb hK hP  (vp_in_nI (n := 0) (by decide) (by decide)) rfl d_MD_sent_13 ?_
    exact fl_iret hx hb hr hlocks hP hS hG.symm rfl d_MD_sent_14
theorem hd_MD_sent : y_MD_sent.cls ≠ "java/lang/invoke/MethodHandle" ∧ y_MD_sent.cls ≠ "java/lang/invoke/VarHandle" ∧ (parseMethodDescriptor y_MD_sent.desc).map (fun d => d.parameters.length) = some 1 := by decide +kernel
theorem kv_MD_sent {R : Room} {s : State} {args : Array Value} {c0 : Cond} {own : String} {index : Nat} (hts : ∀ w ∈ c0 :: gw, w.before args s = true) (hl : (Cond.methodLink own index y_MD_sent).before args s = true) (hR : 0 + 1 ≤ R.frames ∧ 8 + (2 + 11) + 0 ≤ R.locals) : CallW R s args own "FarLinkModel" index y_MD_sent b_MD_sent 2 (some .int) w_MD_sent ({ frames := 0, cells := 0, slots := 0, locals := 0 } : Room) 0 0 1 := ⟨callB_of 1 hts (gw_in tw_1174) rfl rfl rfl (hts _ (List.mem_cons_of_mem _ tw_10)) hl hd_MD_sent hR, hts _ (List.mem_cons_of_mem _ tw_1172), hts _ (List.mem_cons_of_mem _ tw_1173)⟩
def g_MD_faults (M : fl_M) (x1 : Int32) : Int32 :=
  if x1 = 0 then ((M.1 6 ((1 : Int32).toNatClampNeg)) + (65536 * (M.1 7 ((1 : Int32).toNatClampNeg)))) else ((M.1 6 ((0 : Int32).toNatClampNeg)) + (65536 * (M.1 7 ((0 : Int32).toNatClampNeg))))
set_option maxHeartbeats 400000 in
set_option maxRecDepth 100000 in
theorem c_MD_faults (l : Launch) {D : va_G} {ad : Nat → Nat} {cA : Nat → ClassId} (hi : fl_inj ad 41) (M : fl_M) (x1 : Int32) : Met l y_MD_faults w_MD_faults ({ frames := 0, cells := 0, slots := 0, locals := 0 } : Room) (va_Pc [.ref (ad 0), .int x1] (fl_B D cls (yt cA) ([] : fl_L) ([] : fl_FN) ([] : fl_MN) ad (yc ad cA) 41 M)) (va_Qi (fun r M' => r = (g_MD_faults M x1) ∧ M' = M) (fl_E D cls ad (yc ad cA) 41) (fl_A ad 41)) 0 0 (fl_A ad 41) := by
  refine Met.ofW (cc := b_MD_faults) (maxL := 2) (ret := (some .int)) (by decide) rfl ?_
  intro p e s m args below meth c s₁ B hml hv
  obtain ⟨rfl, hP, hK, hSt, hN⟩ := hv
  have hx := B.exec
  have hb := B.bytes
  have hr := B.returns
  have hts := atoms_spec (ws := w_MD_faults) B.pre
  have hown : s.vm.findClass "FarLinkModel" = some m.cls := findClass_of_methodNamed B.named
  have hlocks := B.notSynchronized
  have hS : va_S (fl_A ad 41) s.heap s.heap [] := va_S.rf
  have hl := lv_entry ([.ref (ad 0), .int x1]) (n := 2) (Nat.le_of_ble_eq_true rfl)
  rw [lg_entry_eq]
  generalize (lg_sl ([.ref (ad 0), .int x1]) ++ List.replicate (2 - (lg_sl ([.ref (ad 0), .int x1])).length) Slot.unset).toArray = ls at hl ⊢
  have hl : lv_has ls 2 [(0, .ref (ad 0)), (1, .int x1)] := hl
  have hG := g_MD_faults.eq_1 M x1
  refine lv_aload_n hx hb d_MD_faults_0 rfl (lv_at hl 0 rfl) ?_
  refine gg_MD (k := 10) (v := .ref (ad 6)) hx hb hts hown hK hP  (hts _ (List.mem_cons_of_mem _ tw_791)) (by decide) rfl rfl d_MD_faults_1 ?_
  refine lv_iload_n hx hb d_MD_faults_4 rfl (lv_at hl 1 rfl) ?_
  refine lv_if_eq (tgt := 12) hx hb d_MD_faults_5 (by decide) (fun h_1 => ?_) (fun h_1 => ?_)
  ·
    have hG := hG.trans (if_pos h_1)
    refine lv_iconst (v := 1) hx hb d_MD_faults_12 (by decide) ?_
    refine ag_Aspoilt (v := .int (M.1 6 ((1 : Int32).toNatClampNeg))) hx hb hK hP  (vp_in_nI (n := 1) (by decide) (by decide)) rfl d_MD_faults_13 ?_
    refine lv_ldcw (v := 65536) hx hb hown (hts _ (List.mem_cons_of_mem _ tw_997)) d_MD_faults_14 ?_
    refine lv_aload_n hx hb d_MD_faults_17 rfl (lv_at hl 0 rfl) ?_
    refine gg_MD (k := 11) (v := .ref (ad 7)) hx hb hts hown hK hP  (hts _ (List.mem_cons_of_mem _ tw_792)) (by decide) rfl rfl d_MD_faults_18 ?_
    refine lv_iload_n hx hb d_MD_faults_21 rfl (lv_at hl 1 rfl) ?_
    refine lv_if_eq (tgt := 29) hx hb d_MD_faults_22 (by decide) (fun _ => ?_) (fun h_2 => absurd (h_1) h_2)
    refine lv_iconst (v := 1) hx hb d_MD_faults_29 (by decide) ?_
    refine ag_Amended (v := .int (M.1 7 ((1 : Int32).toNatClampNeg))) hx hb hK hP  (vp_in_nI (n := 1) (by decide) (by decide)) rfl d_MD_faults_30 ?_
    refine lv_imul hx hb d_MD_faults_31 ?_
    refine lv_iadd hx hb d_MD_faults_32 ?_
    exact fl_iret hx hb hr hlocks hP hS hG.symm rfl d_MD_faults_33
  ·
    have hG := hG.trans (if_neg h_1)
    refine lv_iconst (v := 0) hx hb d_MD_faults_8 (by decide) ?_
    refine lv_goto (tgt := 13) hx hb d_MD_faults_9 (by decide) ?_
    refine ag_Aspoilt (v := .int (M.1 6 ((0 : Int32).toNatClampNeg))) hx hb hK hP  (vp_in_nI (n := 0) (by decide) (by decide)) rfl d_MD_faults_13 ?_
    refine lv_ldcw (v := 65536) hx hb hown (hts _ (List.mem_cons_of_mem _ tw_997)) d_MD_faults_14 ?_
    refine lv_aload_n hx hb d_MD_faults_17 rfl (lv_at hl 0 rfl) ?_
    refine gg_MD (k := 11) (v := .ref (ad 7)) hx hb hts hown hK hP  (hts _ (List.mem_cons_of_mem _ tw_792)) (by decide) rfl rfl d_MD_faults_18 ?_
    refine lv_iload_n hx hb d_MD_faults_21 rfl (lv_at hl 1 rfl) ?_
    refine lv_if_eq (tgt := 29) hx hb d_MD_faults_22 (by decide) (fun h_3 => absurd h_3 (h_1)) (fun _ => ?_)
    refine lv_iconst (v := 0) hx hb d_MD_faults_25 (by decide) ?_
    refine lv_goto (tgt := 30) hx hb d_MD_faults_26 (by decide) ?_
    refine ag_Amended (v := .int (M.1 7 ((0 : Int32).toNatClampNeg))) hx hb hK hP  (vp_in_nI (n := 0) (by decide) (by decide)) rfl d_MD_faults_30 ?_
    refine lv_imul hx hb d_MD_faults_31 ?_
    refine lv_iadd hx hb d_MD_faults_32 ?_
    exact fl_iret hx hb hr hlocks hP hS hG.symm rfl d_MD_faults_33
theorem hd_MD_faults : y_MD_faults.cls ≠ "java/lang/invoke/MethodHandle" ∧ y_MD_faults.cls ≠ "java/lang/invoke/VarHandle" ∧ (parseMethodDescriptor y_MD_faults.desc).map (fun d => d.parameters.length) = some 1 := by decide +kernel
theorem kv_MD_faults {R : Room} {s : State} {args : Array Value} {c0 : Cond} {own : String} {index : Nat} (hts : ∀ w ∈ c0 :: gw, w.before args s = true) (hl : (Cond.methodLink own index y_MD_faults).before args s = true) (hR : 0 + 1 ≤ R.frames ∧ 8 + (2 + 11) + 0 ≤ R.locals) : CallW R s args own "FarLinkModel" index y_MD_faults b_MD_faults 2 (some .int) w_MD_faults ({ frames := 0, cells := 0, slots := 0, locals := 0 } : Room) 0 0 1 := ⟨callB_of 1 hts (gw_in tw_1178) rfl rfl rfl (hts _ (List.mem_cons_of_mem _ tw_10)) hl hd_MD_faults hR, hts _ (List.mem_cons_of_mem _ tw_1176), hts _ (List.mem_cons_of_mem _ tw_1177)⟩
def g_MD_noise (M : fl_M) (x1 : Int32) (x2 : Int64) : fl_M :=
  if x1 = 0 then ((fl_l M 3 ((1 : Int32).toNatClampNeg) ((M.2 3 ((1 : Int32).toNatClampNeg)) ^^^ (x2 &&& 1152921504606846975)))) else ((fl_l M 3 ((0 : Int32).toNatClampNeg) ((M.2 3 ((0 : Int32).toNatClampNeg)) ^^^ (x2 &&& 9223372036854775807))))
set_option maxHeartbeats 400000 in
set_option maxRecDepth 100000 in
theorem c_MD_noise (l : Launch) {D : va_G} {ad : Nat → Nat} {cA : Nat → ClassId} (hi : fl_inj ad 41) (M : fl_M) (x1 : Int32) (x2 : Int64) : Met l y_MD_noise w_MD_noise ({ frames := 0, cells := 0, slots := 0, locals := 0 } : Room) (va_Pc [.ref (ad 0), .int x1, .long x2] (fl_B D cls (yt cA) ([] : fl_L) ([] : fl_FN) ([] : fl_MN) ad (yc ad cA) 41 M)) (va_Qv (fun M' => M' = (g_MD_noise M x1 x2)) (fl_E D cls ad (yc ad cA) 41) (fl_A ad 41)) 0 0 (fl_A ad 41) := by
  refine Met.ofW (cc := b_MD_noise) (maxL := 5) (ret := none) (by decide) rfl ?_
  intro p e s m args below meth c s₁ B hml hv
  obtain ⟨rfl, hP, hK, hSt, hN⟩ := hv
  have hx := B.exec
  have hb := B.bytes
  have hr := B.returns
  have hts := atoms_spec (ws := w_MD_noise) B.pre
  have hown : s.vm.findClass "FarLinkModel" = some m.cls := findClass_of_methodNamed B.named
  have hlocks := B.notSynchronized
  have hS : va_S (fl_A ad 41) s.heap s.heap [] := va_S.rf
  have hl := lv_entry ([.ref (ad 0), .int x1, .long x2]) (n := 5) (Nat.le_of_ble_eq_true rfl)
  rw [lg_entry_eq]
  generalize (lg_sl ([.ref (ad 0), .int x1, .long x2]) ++ List.replicate (5 - (lg_sl ([.ref (ad 0), .int x1, .long x2])).length) Slot.unset).toArray = ls at hl ⊢
  have hl : lv_has ls 5 [(0, .ref (ad 0)), (1, .int x1), (2, .long x2)] := hl
  have hG := g_MD_noise.eq_1 M x1 x2
  refine lv_iload_n hx hb d_MD_noise_0 rfl (lv_at hl 1 rfl) ?_
  refine lv_if_eq (tgt := 8) hx hb d_MD_noise_1 (by decide) (fun h_1 => ?_) (fun h_1 => ?_)
  ·
    have hG := hG.trans (if_pos h_1)
    refine lv_iconst (v := 1) hx hb d_MD_noise_8 (by decide) ?_
    refine lv_istore (lv' := [(4, .int 1), (0, .ref (ad 0)), (1, .int x1), (2, .long x2)]) hx hb d_MD_noise_9 hl (by decide) rfl (fun ls hl => ?_)
    refine lv_aload_n hx hb d_MD_noise_11 rfl (lv_at hl 1 rfl) ?_
    refine gg_MD (k := 7) (v := .ref (ad 3)) hx hb hts hown hK hP  (hts _ (List.mem_cons_of_mem _ tw_788)) (by decide) rfl rfl d_MD_noise_12 ?_
    refine lv_iload hx hb d_MD_noise_15 (lv_at hl 0 rfl) ?_
    refine lv_aload_n hx hb d_MD_noise_17 rfl (lv_at hl 1 rfl) ?_
    refine gg_MD (k := 7) (v := .ref (ad 3)) hx hb hts hown hK hP  (hts _ (List.mem_cons_of_mem _ tw_788)) (by decide) rfl rfl d_MD_noise_18 ?_
    refine lv_iload hx hb d_MD_noise_21 (lv_at hl 0 rfl) ?_
    refine ag_Anoises (v := .long (M.2 3 ((1 : Int32).toNatClampNeg))) hx hb hK hP  (vp_in_nI (n := 1) (by decide) (by decide)) rfl d_MD_noise_23 ?_
    refine lv_lload_n hx hb d_MD_noise_24 rfl (lv_at hl 3 rfl) ?_
    refine lv_iload_n hx hb d_MD_noise_25 rfl (lv_at hl 2 rfl) ?_
    refine lv_if_eq (tgt := 35) hx hb d_MD_noise_26 (by decide) (fun _ => ?_) (fun h_2 => absurd (h_1) h_2)
    refine lv_ldc2 (v := 1152921504606846975) hx hb hown (hts _ (List.mem_cons_of_mem _ tw_969)) d_MD_noise_35 ?_
    refine lv_land hx hb d_MD_noise_38 ?_
    refine lv_lxor hx hb d_MD_noise_39 ?_
    refine sg_Anoises hx hb hK hi hP hS  (vp_in_nI (n := 1) (by decide) (by decide)) d_MD_noise_40 (fun H locs hP hS => ?_)
    exact fl_vret hx hb hr hlocks hP hS (by rw [hG]) d_MD_noise_41
  ·
    have hG := hG.trans (if_neg h_1)
    refine lv_iconst (v := 0) hx hb d_MD_noise_4 (by decide) ?_
    refine lv_goto (tgt := 9) hx hb d_MD_noise_5 (by decide) ?_
    refine lv_istore (lv' := [(4, .int 0), (0, .ref (ad 0)), (1, .int x1), (2, .long x2)]) hx hb d_MD_noise_9 hl (by decide) rfl (fun ls hl => ?_)
    refine lv_aload_n hx hb d_MD_noise_11 rfl (lv_at hl 1 rfl) ?_
    refine gg_MD (k := 7) (v := .ref (ad 3)) hx hb hts hown hK hP  (hts _ (List.mem_cons_of_mem _ tw_788)) (by decide) rfl rfl d_MD_noise_12 ?_
    refine lv_iload hx hb d_MD_noise_15 (lv_at hl 0 rfl) ?_
    refine lv_aload_n hx hb d_MD_noise_17 rfl (lv_at hl 1 rfl) ?_
    refine gg_MD (k := 7) (v := .ref (ad 3)) hx hb hts hown hK hP  (hts _ (List.mem_cons_of_mem _ tw_788)) (by decide) rfl rfl d_MD_noise_18 ?_
    refine lv_iload hx hb d_MD_noise_21 (lv_at hl 0 rfl) ?_
    refine ag_Anoises (v := .long (M.2 3 ((0 : Int32).toNatClampNeg))) hx hb hK hP  (vp_in_nI (n := 0) (by decide) (by decide)) rfl d_MD_noise_23 ?_
    refine lv_lload_n hx hb d_MD_noise_24 rfl (lv_at hl 3 rfl) ?_
    refine lv_iload_n hx hb d_MD_noise_25 rfl (lv_at hl 2 rfl) ?_
    refine lv_if_eq (tgt := 35) hx hb d_MD_noise_26 (by decide) (fun h_3 => absurd h_3 (h_1)) (fun _ => ?_)
    refine lv_ldc2 (v := 9223372036854775807) hx hb hown (hts _ (List.mem_cons_of_mem _ tw_968)) d_MD_noise_29 ?_
    refine lv_goto (tgt := 38) hx hb d_MD_noise_32 (by decide) ?_
    refine lv_land hx hb d_MD_noise_38 ?_
    refine lv_lxor hx hb d_MD_noise_39 ?_
    refine sg_Anoises hx hb hK hi hP hS  (vp_in_nI (n := 0) (by decide) (by decide)) d_MD_noise_40 (fun H locs hP hS => ?_)
    exact fl_vret hx hb hr hlocks hP hS (by rw [hG]) d_MD_noise_41
theorem hd_MD_noise : y_MD_noise.cls ≠ "java/lang/invoke/MethodHandle" ∧ y_MD_noise.cls ≠ "java/lang/invoke/VarHandle" ∧ (parseMethodDescriptor y_MD_noise.desc).map (fun d => d.parameters.length) = some 2 := by decide +kernel
theorem kv_MD_noise {R : Room} {s : State} {args : Array Value} {c0 : Cond} {own : String} {index : Nat} (hts : ∀ w ∈ c0 :: gw, w.before args s = true) (hl : (Cond.methodLink own index y_MD_noise).before args s = true) (hR : 0 + 1 ≤ R.frames ∧ 8 + (5 + 11) + 0 ≤ R.locals) : CallW R s args own "FarLinkModel" index y_MD_noise b_MD_noise 5 none w_MD_noise ({ frames := 0, cells := 0, slots := 0, locals := 0 } : Room) 0 0 2 := ⟨callB_of 2 hts (gw_in tw_1018) rfl rfl rfl (hts _ (List.mem_cons_of_mem _ tw_10)) hl hd_MD_noise hR, hts _ (List.mem_cons_of_mem _ tw_1016), hts _ (List.mem_cons_of_mem _ tw_1017)⟩
