/-! contracts: 19.gf -/
def g_GF_confirm (f : Nat → Int32) (z : Nat → Int32) (g : Nat → Int64) (x1 : Int32) : (Nat → Int32) × (Nat → Int32) × (Nat → Int64) :=
  if x1 ≤ 0 then ((f, z, g)) else (((upd (upd (upd f 5 ((f 5) - x1)) 6 1) 7 (f 0)), z, g))
set_option maxHeartbeats 4000000 in
set_option maxRecDepth 100000 in
theorem c_GF_confirm (l : Launch) {D : va_G} {ad : Nat → Nat} {cA : Nat → ClassId} {st : Nat → Nat} (hi : fl_inj ad 88) (M : fl_M) (f : Nat → Int32) (z : Nat → Int32) (g : Nat → Int64) (x1 : Int32) : Met l y_GF_confirm w_GF_confirm ({ frames := 0, cells := 0, slots := 0, locals := 0 } : Room) (va_Pc [.ref (ad 11), .int x1] (fl_B D cls (xt cA) (xSL st) xFN xMN ad (xc ad cA) 88 (pGF M f z g))) (va_Qv (fun M' => M' = (pGF M ((g_GF_confirm f z g x1).1) ((g_GF_confirm f z g x1).2.1) ((g_GF_confirm f z g x1).2.2))) (fl_E D cls ad (xc ad cA) 88) (fl_A ad 88)) 0 0 (fl_A ad 88) := by
  refine Met.ofW (cc := b_GF_confirm) (maxL := 2) (ret := none) (by decide) rfl ?_
  intro p e s m args below meth c s₁ B hml hv
  obtain ⟨rfl, hP, hK, hSt, hN⟩ := hv
  have hx := B.exec
  have hb := B.bytes
  have hr := B.returns
  have hts := atoms_spec (ws := w_GF_confirm) B.pre
  have hown : s.vm.findClass "FarLink$GroundFrames" = some m.cls := findClass_of_methodNamed B.named
  have hlocks := B.notSynchronized
  have hS : va_S (fl_A ad 88) s.heap s.heap [] := va_S.rf
  have hl := lv_entry ([.ref (ad 11), .int x1]) (n := 2) (Nat.le_of_ble_eq_true rfl)
  rw [lg_entry_eq]
  generalize (lg_sl ([.ref (ad 11), .int x1]) ++ List.replicate (2 - (lg_sl ([.ref (ad 11), .int x1])).length) Slot.unset).toArray = ls at hl ⊢
  have hl : lv_has ls 2 [(0, .ref (ad 11)), (1, .int x1)] := hl
  have hG := g_GF_confirm.eq_1 f z g x1
  refine lv_iload_n hx hb d_GF_confirm_0 rfl (lv_at hl 1 rfl) ?_
  refine lv_if_le (tgt := 27) hx hb d_GF_confirm_1 (by decide) (fun h_1 => ?_) (fun h_1 => ?_)
  ·
    have hG := hG.trans (if_pos h_1)
    exact fl_vret hx hb hr hlocks hP hS (by rw [hG]) d_GF_confirm_27
  ·
    have hG := hG.trans (if_neg h_1)
    refine lv_aload_n hx hb d_GF_confirm_4 rfl (lv_at hl 0 rfl) ?_
    refine lv_dup hx hb d_GF_confirm_5 rfl ?_
    refine gt_GF (k := 5) (v := .int (f 5)) hx hb hts hown hK hP  (hts _ (List.mem_cons_of_mem _ tw_88)) (by decide) rfl rfl d_GF_confirm_6 ?_
    refine lv_iload_n hx hb d_GF_confirm_9 rfl (lv_at hl 1 rfl) ?_
    refine lv_isub hx hb d_GF_confirm_10 ?_
    refine pt_GF (k := 5) hx hb hts hown hK hi hP hS  (hts _ (List.mem_cons_of_mem _ tw_88)) (by decide) rfl rfl rfl rfl (Nat.le_of_ble_eq_true rfl) rfl d_GF_confirm_11 (fun H locs hP hS => ?_)
    refine lv_aload_n hx hb d_GF_confirm_14 rfl (lv_at hl 0 rfl) ?_
    refine lv_iconst (v := 1) hx hb d_GF_confirm_15 (by decide) ?_
    refine pt_GF (k := 6) hx hb hts hown hK hi hP hS  (hts _ (List.mem_cons_of_mem _ tw_89)) (by decide) rfl rfl rfl rfl (Nat.le_of_ble_eq_true rfl) rfl d_GF_confirm_16 (fun H locs hP hS => ?_)
    refine lv_aload_n hx hb d_GF_confirm_19 rfl (lv_at hl 0 rfl) ?_
    refine lv_aload_n hx hb d_GF_confirm_20 rfl (lv_at hl 0 rfl) ?_
    refine gt_GF (k := 0) (v := .int (f 0)) hx hb hts hown hK hP  (hts _ (List.mem_cons_of_mem _ tw_83)) (by decide) rfl rfl d_GF_confirm_21 ?_
    refine pt_GF (k := 7) hx hb hts hown hK hi hP hS  (hts _ (List.mem_cons_of_mem _ tw_90)) (by decide) rfl rfl rfl rfl (Nat.le_of_ble_eq_true rfl) rfl d_GF_confirm_24 (fun H locs hP hS => ?_)
    exact fl_vret hx hb hr hlocks hP hS (by rw [hG]) d_GF_confirm_27
theorem hd_GF_confirm : y_GF_confirm.cls ≠ "java/lang/invoke/MethodHandle" ∧ y_GF_confirm.cls ≠ "java/lang/invoke/VarHandle" ∧ (parseMethodDescriptor y_GF_confirm.desc).map (fun d => d.parameters.length) = some 1 := by decide +kernel
theorem kv_GF_confirm {R : Room} {s : State} {args : Array Value} {c0 : Cond} {own : String} {index : Nat} (hts : ∀ w ∈ c0 :: gw, w.before args s = true) (hl : (Cond.methodLink own index y_GF_confirm).before args s = true) (hR : 0 + 1 ≤ R.frames ∧ 8 + (2 + 11) + 0 ≤ R.locals) : CallW R s args own "FarLink$GroundFrames" index y_GF_confirm b_GF_confirm 2 none w_GF_confirm ({ frames := 0, cells := 0, slots := 0, locals := 0 } : Room) 0 0 1 := ⟨callB_of 1 hts (gw_in tw_591) rfl rfl rfl (hts _ (List.mem_cons_of_mem _ tw_5)) hl hd_GF_confirm hR, hts _ (List.mem_cons_of_mem _ tw_590), hts _ (List.mem_cons_of_mem _ ps_GF_confirm)⟩
def g_GF_alert (f : Nat → Int32) (z : Nat → Int32) (g : Nat → Int64) (x1 : Int32) : (Nat → Int32) × (Nat → Int32) × (Nat → Int64) :=
  ((upd (upd (upd (upd (upd (upd (upd f 8 ((f 8) + 1)) 5 0) 6 1) 10 0) 7 (f 0)) 3 x1) 9 1), z, g)
set_option maxHeartbeats 4000000 in
set_option maxRecDepth 100000 in
theorem c_GF_alert (l : Launch) {D : va_G} {ad : Nat → Nat} {cA : Nat → ClassId} {st : Nat → Nat} (hi : fl_inj ad 88) (M : fl_M) (f : Nat → Int32) (z : Nat → Int32) (g : Nat → Int64) (x1 : Int32) : Met l y_GF_alert w_GF_alert ({ frames := 0, cells := 0, slots := 0, locals := 0 } : Room) (va_Pc [.ref (ad 11), .int x1] (fl_B D cls (xt cA) (xSL st) xFN xMN ad (xc ad cA) 88 (pGF M f z g))) (va_Qv (fun M' => M' = (pGF M ((g_GF_alert f z g x1).1) ((g_GF_alert f z g x1).2.1) ((g_GF_alert f z g x1).2.2))) (fl_E D cls ad (xc ad cA) 88) (fl_A ad 88)) 0 0 (fl_A ad 88) := by
  refine Met.ofW (cc := b_GF_alert) (maxL := 2) (ret := none) (by decide) rfl ?_
  intro p e s m args below meth c s₁ B hml hv
  obtain ⟨rfl, hP, hK, hSt, hN⟩ := hv
  have hx := B.exec
  have hb := B.bytes
  have hr := B.returns
  have hts := atoms_spec (ws := w_GF_alert) B.pre
  have hown : s.vm.findClass "FarLink$GroundFrames" = some m.cls := findClass_of_methodNamed B.named
  have hlocks := B.notSynchronized
  have hS : va_S (fl_A ad 88) s.heap s.heap [] := va_S.rf
  have hl := lv_entry ([.ref (ad 11), .int x1]) (n := 2) (Nat.le_of_ble_eq_true rfl)
  rw [lg_entry_eq]
  generalize (lg_sl ([.ref (ad 11), .int x1]) ++ List.replicate (2 - (lg_sl ([.ref (ad 11), .int x1])).length) Slot.unset).toArray = ls at hl ⊢
  have hl : lv_has ls 2 [(0, .ref (ad 11)), (1, .int x1)] := hl
  have hG := g_GF_alert.eq_1 f z g x1
  refine lv_aload_n hx hb d_GF_alert_0 rfl (lv_at hl 0 rfl) ?_
  refine lv_dup hx hb d_GF_alert_1 rfl ?_
  refine gt_GF (k := 8) (v := .int (f 8)) hx hb hts hown hK hP  (hts _ (List.mem_cons_of_mem _ tw_91)) (by decide) rfl rfl d_GF_alert_2 ?_
  refine lv_iconst (v := 1) hx hb d_GF_alert_5 (by decide) ?_
  refine lv_iadd hx hb d_GF_alert_6 ?_
  refine pt_GF (k := 8) hx hb hts hown hK hi hP hS  (hts _ (List.mem_cons_of_mem _ tw_91)) (by decide) rfl rfl rfl rfl (Nat.le_of_ble_eq_true rfl) rfl d_GF_alert_7 (fun H locs hP hS => ?_)
  refine lv_aload_n hx hb d_GF_alert_10 rfl (lv_at hl 0 rfl) ?_
  refine lv_iconst (v := 0) hx hb d_GF_alert_11 (by decide) ?_
  refine pt_GF (k := 5) hx hb hts hown hK hi hP hS  (hts _ (List.mem_cons_of_mem _ tw_88)) (by decide) rfl rfl rfl rfl (Nat.le_of_ble_eq_true rfl) rfl d_GF_alert_12 (fun H locs hP hS => ?_)
  refine lv_aload_n hx hb d_GF_alert_15 rfl (lv_at hl 0 rfl) ?_
  refine lv_iconst (v := 1) hx hb d_GF_alert_16 (by decide) ?_
  refine pt_GF (k := 6) hx hb hts hown hK hi hP hS  (hts _ (List.mem_cons_of_mem _ tw_89)) (by decide) rfl rfl rfl rfl (Nat.le_of_ble_eq_true rfl) rfl d_GF_alert_17 (fun H locs hP hS => ?_)
  refine lv_aload_n hx hb d_GF_alert_20 rfl (lv_at hl 0 rfl) ?_
  refine lv_iconst (v := 0) hx hb d_GF_alert_21 (by decide) ?_
  refine pt_GF (k := 10) hx hb hts hown hK hi hP hS  (hts _ (List.mem_cons_of_mem _ tw_95)) (by decide) rfl rfl (rfl) (rfl) (Nat.le_of_ble_eq_true rfl) rfl d_GF_alert_22 (fun H locs hP hS => ?_)
  refine lv_aload_n hx hb d_GF_alert_25 rfl (lv_at hl 0 rfl) ?_
  refine lv_aload_n hx hb d_GF_alert_26 rfl (lv_at hl 0 rfl) ?_
  refine gt_GF (k := 0) (v := .int (f 0)) hx hb hts hown hK hP  (hts _ (List.mem_cons_of_mem _ tw_83)) (by decide) rfl rfl d_GF_alert_27 ?_
  refine pt_GF (k := 7) hx hb hts hown hK hi hP hS  (hts _ (List.mem_cons_of_mem _ tw_90)) (by decide) rfl rfl rfl rfl (Nat.le_of_ble_eq_true rfl) rfl d_GF_alert_30 (fun H locs hP hS => ?_)
  refine lv_aload_n hx hb d_GF_alert_33 rfl (lv_at hl 0 rfl) ?_
  refine lv_iload_n hx hb d_GF_alert_34 rfl (lv_at hl 1 rfl) ?_
  refine pt_GF (k := 3) hx hb hts hown hK hi hP hS  (hts _ (List.mem_cons_of_mem _ tw_86)) (by decide) rfl rfl rfl rfl (Nat.le_of_ble_eq_true rfl) rfl d_GF_alert_35 (fun H locs hP hS => ?_)
  refine lv_aload_n hx hb d_GF_alert_38 rfl (lv_at hl 0 rfl) ?_
  refine lv_iconst (v := 1) hx hb d_GF_alert_39 (by decide) ?_
  refine pt_GF (k := 9) hx hb hts hown hK hi hP hS  (hts _ (List.mem_cons_of_mem _ tw_93)) (by decide) rfl rfl (rfl) (rfl) (Nat.le_of_ble_eq_true rfl) rfl d_GF_alert_40 (fun H locs hP hS => ?_)
  exact fl_vret hx hb hr hlocks hP hS (by rw [hG]) d_GF_alert_43
theorem hd_GF_alert : y_GF_alert.cls ≠ "java/lang/invoke/MethodHandle" ∧ y_GF_alert.cls ≠ "java/lang/invoke/VarHandle" ∧ (parseMethodDescriptor y_GF_alert.desc).map (fun d => d.parameters.length) = some 1 := by decide +kernel
theorem kv_GF_alert {R : Room} {s : State} {args : Array Value} {c0 : Cond} {own : String} {index : Nat} (hts : ∀ w ∈ c0 :: gw, w.before args s = true) (hl : (Cond.methodLink own index y_GF_alert).before args s = true) (hR : 0 + 1 ≤ R.frames ∧ 8 + (2 + 11) + 0 ≤ R.locals) : CallW R s args own "FarLink$GroundFrames" index y_GF_alert b_GF_alert 2 none w_GF_alert ({ frames := 0, cells := 0, slots := 0, locals := 0 } : Room) 0 0 1 := ⟨callB_of 1 hts (gw_in tw_587) rfl rfl rfl (hts _ (List.mem_cons_of_mem _ tw_5)) hl hd_GF_alert hR, hts _ (List.mem_cons_of_mem _ tw_586), hts _ (List.mem_cons_of_mem _ ps_GF_alert)⟩
def g_GF_direct (f : Nat → Int32) (z : Nat → Int32) (g : Nat → Int64) (x1 : Int32) : (Nat → Int32) × (Nat → Int32) × (Nat → Int64) :=
  ((upd (upd f 3 x1) 9 1), z, g)
set_option maxHeartbeats 4000000 in
set_option maxRecDepth 100000 in
theorem c_GF_direct (l : Launch) {D : va_G} {ad : Nat → Nat} {cA : Nat → ClassId} {st : Nat → Nat} (hi : fl_inj ad 88) (M : fl_M) (f : Nat → Int32) (z : Nat → Int32) (g : Nat → Int64) (x1 : Int32) : Met l y_GF_direct w_GF_direct ({ frames := 0, cells := 0, slots := 0, locals := 0 } : Room) (va_Pc [.ref (ad 11), .int x1] (fl_B D cls (xt cA) (xSL st) xFN xMN ad (xc ad cA) 88 (pGF M f z g))) (va_Qv (fun M' => M' = (pGF M ((g_GF_direct f z g x1).1) ((g_GF_direct f z g x1).2.1) ((g_GF_direct f z g x1).2.2))) (fl_E D cls ad (xc ad cA) 88) (fl_A ad 88)) 0 0 (fl_A ad 88) := by
  refine Met.ofW (cc := b_GF_direct) (maxL := 2) (ret := none) (by decide) rfl ?_
  intro p e s m args below meth c s₁ B hml hv
  obtain ⟨rfl, hP, hK, hSt, hN⟩ := hv
  have hx := B.exec
  have hb := B.bytes
  have hr := B.returns
  have hts := atoms_spec (ws := w_GF_direct) B.pre
  have hown : s.vm.findClass "FarLink$GroundFrames" = some m.cls := findClass_of_methodNamed B.named
  have hlocks := B.notSynchronized
  have hS : va_S (fl_A ad 88) s.heap s.heap [] := va_S.rf
  have hl := lv_entry ([.ref (ad 11), .int x1]) (n := 2) (Nat.le_of_ble_eq_true rfl)
  rw [lg_entry_eq]
  generalize (lg_sl ([.ref (ad 11), .int x1]) ++ List.replicate (2 - (lg_sl ([.ref (ad 11), .int x1])).length) Slot.unset).toArray = ls at hl ⊢
  have hl : lv_has ls 2 [(0, .ref (ad 11)), (1, .int x1)] := hl
  have hG := g_GF_direct.eq_1 f z g x1
  refine lv_aload_n hx hb d_GF_direct_0 rfl (lv_at hl 0 rfl) ?_
  refine lv_iload_n hx hb d_GF_direct_1 rfl (lv_at hl 1 rfl) ?_
  refine pt_GF (k := 3) hx hb hts hown hK hi hP hS  (hts _ (List.mem_cons_of_mem _ tw_86)) (by decide) rfl rfl rfl rfl (Nat.le_of_ble_eq_true rfl) rfl d_GF_direct_2 (fun H locs hP hS => ?_)
  refine lv_aload_n hx hb d_GF_direct_5 rfl (lv_at hl 0 rfl) ?_
  refine lv_iconst (v := 1) hx hb d_GF_direct_6 (by decide) ?_
  refine pt_GF (k := 9) hx hb hts hown hK hi hP hS  (hts _ (List.mem_cons_of_mem _ tw_93)) (by decide) rfl rfl (rfl) (rfl) (Nat.le_of_ble_eq_true rfl) rfl d_GF_direct_7 (fun H locs hP hS => ?_)
  exact fl_vret hx hb hr hlocks hP hS (by rw [hG]) d_GF_direct_10
theorem hd_GF_direct : y_GF_direct.cls ≠ "java/lang/invoke/MethodHandle" ∧ y_GF_direct.cls ≠ "java/lang/invoke/VarHandle" ∧ (parseMethodDescriptor y_GF_direct.desc).map (fun d => d.parameters.length) = some 1 := by decide +kernel
theorem kv_GF_direct {R : Room} {s : State} {args : Array Value} {c0 : Cond} {own : String} {index : Nat} (hts : ∀ w ∈ c0 :: gw, w.before args s = true) (hl : (Cond.methodLink own index y_GF_direct).before args s = true) (hR : 0 + 1 ≤ R.frames ∧ 8 + (2 + 11) + 0 ≤ R.locals) : CallW R s args own "FarLink$GroundFrames" index y_GF_direct b_GF_direct 2 none w_GF_direct ({ frames := 0, cells := 0, slots := 0, locals := 0 } : Room) 0 0 1 := ⟨callB_of 1 hts (gw_in tw_603) rfl rfl rfl (hts _ (List.mem_cons_of_mem _ tw_5)) hl hd_GF_direct hR, hts _ (List.mem_cons_of_mem _ tw_602), hts _ (List.mem_cons_of_mem _ ps_GF_direct)⟩
def g_GF_hasRoom (f : Nat → Int32) (z : Nat → Int32) (g : Nat → Int64) : Int32 :=
  if (f 3) = 0 then (if 7 ≤ (f 5) then (0) else (1)) else (0)
set_option maxHeartbeats 4000000 in
set_option maxRecDepth 100000 in
theorem c_GF_hasRoom (l : Launch) {D : va_G} {ad : Nat → Nat} {cA : Nat → ClassId} {st : Nat → Nat} (hi : fl_inj ad 88) (M : fl_M) (f : Nat → Int32) (z : Nat → Int32) (g : Nat → Int64) : Met l y_GF_hasRoom w_GF_hasRoom ({ frames := 0, cells := 0, slots := 0, locals := 0 } : Room) (va_Pc [.ref (ad 11)] (fl_B D cls (xt cA) (xSL st) xFN xMN ad (xc ad cA) 88 (pGF M f z g))) (va_Qi (fun r M' => r = (g_GF_hasRoom f z g) ∧ M' = (pGF M f z g)) (fl_E D cls ad (xc ad cA) 88) (fl_A ad 88)) 0 0 (fl_A ad 88) := by
  refine Met.ofW (cc := b_GF_hasRoom) (maxL := 1) (ret := (some .boolean)) (by decide) rfl ?_
  intro p e s m args below meth c s₁ B hml hv
  obtain ⟨rfl, hP, hK, hSt, hN⟩ := hv
  have hx := B.exec
  have hb := B.bytes
  have hr := B.returns
  have hts := atoms_spec (ws := w_GF_hasRoom) B.pre
  have hown : s.vm.findClass "FarLink$GroundFrames" = some m.cls := findClass_of_methodNamed B.named
  have hlocks := B.notSynchronized
  have hS : va_S (fl_A ad 88) s.heap s.heap [] := va_S.rf
  have hl := lv_entry ([.ref (ad 11)]) (n := 1) (Nat.le_of_ble_eq_true rfl)
  rw [lg_entry_eq]
  generalize (lg_sl ([.ref (ad 11)]) ++ List.replicate (1 - (lg_sl ([.ref (ad 11)])).length) Slot.unset).toArray = ls at hl ⊢
  have hl : lv_has ls 1 [(0, .ref (ad 11))] := hl
  have hG := g_GF_hasRoom.eq_1 f z g
  refine lv_aload_n hx hb d_GF_hasRoom_0 rfl (lv_at hl 0 rfl) ?_
  refine gt_GF (k := 3) (v := .int (f 3)) hx hb hts hown hK hP  (hts _ (List.mem_cons_of_mem _ tw_86)) (by decide) rfl rfl d_GF_hasRoom_1 ?_
  refine lv_if_ne (tgt := 20) hx hb d_GF_hasRoom_4 (by decide) (fun h_1 => ?_) (fun h_1 => ?_)
  ·
    have hG := hG.trans (if_neg h_1)
    refine lv_iconst (v := 0) hx hb d_GF_hasRoom_20 (by decide) ?_
    exact fl_zret hx hb hr hlocks hP hS (rfl) hG.symm rfl d_GF_hasRoom_21
  ·
    have hG := hG.trans (if_pos h_1)
    refine lv_aload_n hx hb d_GF_hasRoom_7 rfl (lv_at hl 0 rfl) ?_
    refine gt_GF (k := 5) (v := .int (f 5)) hx hb hts hown hK hP  (hts _ (List.mem_cons_of_mem _ tw_88)) (by decide) rfl rfl d_GF_hasRoom_8 ?_
    refine lv_bipush (v := 7) hx hb d_GF_hasRoom_11 (by decide) ?_
    refine lv_icmp_ge (tgt := 20) hx hb d_GF_hasRoom_13 (by decide) (fun h_2 => ?_) (fun h_2 => ?_)
    ·
      have hG := hG.trans (if_pos h_2)
      refine lv_iconst (v := 0) hx hb d_GF_hasRoom_20 (by decide) ?_
      exact fl_zret hx hb hr hlocks hP hS (rfl) hG.symm rfl d_GF_hasRoom_21
    ·
      have hG := hG.trans (if_neg h_2)
      refine lv_iconst (v := 1) hx hb d_GF_hasRoom_16 (by decide) ?_
      refine lv_goto (tgt := 21) hx hb d_GF_hasRoom_17 (by decide) ?_
      exact fl_zret hx hb hr hlocks hP hS (rfl) hG.symm rfl d_GF_hasRoom_21
theorem z_GF_hasRoom (f : Nat → Int32) (z : Nat → Int32) (g : Nat → Int64) : g_GF_hasRoom f z g &&& 1 = g_GF_hasRoom f z g := by
  unfold g_GF_hasRoom
  repeat (first | split | (show (0 : Int32) &&& 1 = 0; rfl) | (show (1 : Int32) &&& 1 = 1; rfl) | rfl)
theorem hd_GF_hasRoom : y_GF_hasRoom.cls ≠ "java/lang/invoke/MethodHandle" ∧ y_GF_hasRoom.cls ≠ "java/lang/invoke/VarHandle" ∧ (parseMethodDescriptor y_GF_hasRoom.desc).map (fun d => d.parameters.length) = some 0 := by decide +kernel
theorem kv_GF_hasRoom {R : Room} {s : State} {args : Array Value} {c0 : Cond} {own : String} {index : Nat} (hts : ∀ w ∈ c0 :: gw, w.before args s = true) (hl : (Cond.methodLink own index y_GF_hasRoom).before args s = true) (hR : 0 + 1 ≤ R.frames ∧ 8 + (1 + 11) + 0 ≤ R.locals) : CallW R s args own "FarLink$GroundFrames" index y_GF_hasRoom b_GF_hasRoom 1 (some .boolean) w_GF_hasRoom ({ frames := 0, cells := 0, slots := 0, locals := 0 } : Room) 0 0 0 := ⟨callB_of 0 hts (gw_in tw_658) rfl rfl rfl (hts _ (List.mem_cons_of_mem _ tw_5)) hl hd_GF_hasRoom hR, hts _ (List.mem_cons_of_mem _ tw_656), hts _ (List.mem_cons_of_mem _ tw_657)⟩
def g_GF_sendDirective (f : Nat → Int32) (z : Nat → Int32) (g : Nat → Int64) : Int64 × (Nat → Int32) × (Nat → Int32) × (Nat → Int64) :=
  if (f 3) = 1 then ((9007199254740992, (upd (upd f 9 0) 7 (f 0)), z, g)) else ((13510798882111488 ||| (j_lshl ((f 4).toInt64) 48), (upd (upd f 9 0) 7 (f 0)), z, g))
set_option maxHeartbeats 4000000 in
set_option maxRecDepth 100000 in
theorem c_GF_sendDirective (l : Launch) {D : va_G} {ad : Nat → Nat} {cA : Nat → ClassId} {st : Nat → Nat} (hi : fl_inj ad 88) (M : fl_M) (f : Nat → Int32) (z : Nat → Int32) (g : Nat → Int64) : Met l y_GF_sendDirective w_GF_sendDirective ({ frames := 0, cells := 0, slots := 0, locals := 0 } : Room) (va_Pc [.ref (ad 11)] (fl_B D cls (xt cA) (xSL st) xFN xMN ad (xc ad cA) 88 (pGF M f z g))) (va_Ql (fun r M' => r = (g_GF_sendDirective f z g).1 ∧ M' = (pGF M ((g_GF_sendDirective f z g).2.1) ((g_GF_sendDirective f z g).2.2.1) ((g_GF_sendDirective f z g).2.2.2))) (fl_E D cls ad (xc ad cA) 88) (fl_A ad 88)) 0 0 (fl_A ad 88) := by
  refine Met.ofW (cc := b_GF_sendDirective) (maxL := 1) (ret := (some .long)) (by decide) rfl ?_
  intro p e s m args below meth c s₁ B hml hv
  obtain ⟨rfl, hP, hK, hSt, hN⟩ := hv
  have hx := B.exec
  have hb := B.bytes
  have hr := B.returns
  have hts := atoms_spec (ws := w_GF_sendDirective) B.pre
  have hown : s.vm.findClass "FarLink$GroundFrames" = some m.cls := findClass_of_methodNamed B.named
  have hlocks := B.notSynchronized
  have hS : va_S (fl_A ad 88) s.heap s.heap [] := va_S.rf
  have hl := lv_entry ([.ref (ad 11)]) (n := 1) (Nat.le_of_ble_eq_true rfl)
  rw [lg_entry_eq]
  generalize (lg_sl ([.ref (ad 11)]) ++ List.replicate (1 - (lg_sl ([.ref (ad 11)])).length) Slot.unset).toArray = ls at hl ⊢
  have hl : lv_has ls 1 [(0, .ref (ad 11))] := hl
  have hG := g_GF_sendDirective.eq_1 f z g
  refine lv_aload_n hx hb d_GF_sendDirective_0 rfl (lv_at hl 0 rfl) ?_
  refine lv_iconst (v := 0) hx hb d_GF_sendDirective_1 (by decide) ?_
  refine pt_GF (k := 9) hx hb hts hown hK hi hP hS  (hts _ (List.mem_cons_of_mem _ tw_93)) (by decide) rfl rfl (rfl) (rfl) (Nat.le_of_ble_eq_true rfl) rfl d_GF_sendDirective_2 (fun H locs hP hS => ?_)
  refine lv_aload_n hx hb d_GF_sendDirective_5 rfl (lv_at hl 0 rfl) ?_
  refine lv_aload_n hx hb d_GF_sendDirective_6 rfl (lv_at hl 0 rfl) ?_
  refine gt_GF (k := 0) (v := .int (f 0)) hx hb hts hown hK hP  (hts _ (List.mem_cons_of_mem _ tw_83)) (by decide) rfl rfl d_GF_sendDirective_7 ?_
  refine pt_GF (k := 7) hx hb hts hown hK hi hP hS  (hts _ (List.mem_cons_of_mem _ tw_90)) (by decide) rfl rfl rfl rfl (Nat.le_of_ble_eq_true rfl) rfl d_GF_sendDirective_10 (fun H locs hP hS => ?_)
  refine lv_aload_n hx hb d_GF_sendDirective_13 rfl (lv_at hl 0 rfl) ?_
  refine gt_GF (k := 3) (v := .int (f 3)) hx hb hts hown hK hP  (hts _ (List.mem_cons_of_mem _ tw_86)) (by decide) rfl rfl d_GF_sendDirective_14 ?_
  refine lv_iconst (v := 1) hx hb d_GF_sendDirective_17 (by decide) ?_
  refine lv_icmp_ne (tgt := 27) hx hb d_GF_sendDirective_18 (by decide) (fun h_1 => ?_) (fun h_1 => ?_)
  ·
    have hG := hG.trans (if_neg h_1)
    refine lv_ldc2 (v := 13510798882111488) hx hb hown (hts _ (List.mem_cons_of_mem _ tw_649)) d_GF_sendDirective_27 ?_
    refine lv_aload_n hx hb d_GF_sendDirective_30 rfl (lv_at hl 0 rfl) ?_
    refine gt_GF (k := 4) (v := .int (f 4)) hx hb hts hown hK hP  (hts _ (List.mem_cons_of_mem _ tw_87)) (by decide) rfl rfl d_GF_sendDirective_31 ?_
    refine lv_i2l (v := (f 4).toInt64) hx hb d_GF_sendDirective_34 rfl ?_
    refine lv_bipush (v := 48) hx hb d_GF_sendDirective_35 (by decide) ?_
    refine lv_lshl (v := j_lshl ((f 4).toInt64) 48) hx hb d_GF_sendDirective_37 rfl ?_
    refine lv_lor hx hb d_GF_sendDirective_38 ?_
    exact fl_lret hx hb hr hlocks hP hS (congrArg Prod.fst hG).symm (by rw [hG]) d_GF_sendDirective_39
  ·
    have hG := hG.trans (if_pos h_1)
    refine lv_ldc2 (v := 9007199254740992) hx hb hown (hts _ (List.mem_cons_of_mem _ tw_648)) d_GF_sendDirective_21 ?_
    refine lv_goto (tgt := 39) hx hb d_GF_sendDirective_24 (by decide) ?_
    exact fl_lret hx hb hr hlocks hP hS (congrArg Prod.fst hG).symm (by rw [hG]) d_GF_sendDirective_39
theorem hd_GF_sendDirective : y_GF_sendDirective.cls ≠ "java/lang/invoke/MethodHandle" ∧ y_GF_sendDirective.cls ≠ "java/lang/invoke/VarHandle" ∧ (parseMethodDescriptor y_GF_sendDirective.desc).map (fun d => d.parameters.length) = some 0 := by decide +kernel
theorem kv_GF_sendDirective {R : Room} {s : State} {args : Array Value} {c0 : Cond} {own : String} {index : Nat} (hts : ∀ w ∈ c0 :: gw, w.before args s = true) (hl : (Cond.methodLink own index y_GF_sendDirective).before args s = true) (hR : 0 + 1 ≤ R.frames ∧ 8 + (1 + 11) + 0 ≤ R.locals) : CallW R s args own "FarLink$GroundFrames" index y_GF_sendDirective b_GF_sendDirective 1 (some .long) w_GF_sendDirective ({ frames := 0, cells := 0, slots := 0, locals := 0 } : Room) 0 0 0 := ⟨callB_of 0 hts (gw_in tw_647) rfl rfl rfl (hts _ (List.mem_cons_of_mem _ tw_5)) hl hd_GF_sendDirective hR, hts _ (List.mem_cons_of_mem _ tw_645), hts _ (List.mem_cons_of_mem _ tw_646)⟩
def g_GF_markAll_L5  : Nat → (Nat → Int32) → (Nat → Int32) → (Nat → Int64) → ((Nat → Int32) × (Nat → Int32) × (Nat → Int64))
  | 0, f1, z1, g1 => (f1, z1, g1)
  | k_5 + 1, f1, z1, g1 => g_GF_markAll_L5  k_5 f1 (upd z1 ((((f1 4) - (nI (k_5 + 1))) &&& 15).toNatClampNeg) 1) g1
def g_GF_markAll (f : Nat → Int32) (z : Nat → Int32) (g : Nat → Int64) : (Nat → Int32) × (Nat → Int32) × (Nat → Int64) :=
  (((g_GF_markAll_L5  ((f 5).toNatClampNeg) f z g).1), ((g_GF_markAll_L5  ((f 5).toNatClampNeg) f z g).2.1), ((g_GF_markAll_L5  ((f 5).toNatClampNeg) f z g).2.2))
set_option maxHeartbeats 4000000 in
set_option maxRecDepth 100000 in
theorem c_GF_markAll (l : Launch) {D : va_G} {ad : Nat → Nat} {cA : Nat → ClassId} {st : Nat → Nat} (hi : fl_inj ad 88) (M : fl_M) (f : Nat → Int32) (z : Nat → Int32) (g : Nat → Int64) (hu : nn (f 5)) : Met l y_GF_markAll w_GF_markAll ({ frames := 0, cells := 0, slots := 0, locals := 0 } : Room) (va_Pc [.ref (ad 11)] (fl_B D cls (xt cA) (xSL st) xFN xMN ad (xc ad cA) 88 (pGF M f z g))) (va_Qv (fun M' => M' = (pGF M ((g_GF_markAll f z g).1) ((g_GF_markAll f z g).2.1) ((g_GF_markAll f z g).2.2))) (fl_E D cls ad (xc ad cA) 88) (fl_A ad 88)) 0 0 (fl_A ad 88) := by
  refine Met.ofW (cc := b_GF_markAll) (maxL := 2) (ret := none) (by decide) rfl ?_
  intro p e s m args below meth c s₁ B hml hv
  obtain ⟨rfl, hP, hK, hSt, hN⟩ := hv
  have hx := B.exec
  have hb := B.bytes
  have hr := B.returns
  have hts := atoms_spec (ws := w_GF_markAll) B.pre
  have hown : s.vm.findClass "FarLink$GroundFrames" = some m.cls := findClass_of_methodNamed B.named
  have hlocks := B.notSynchronized
  have hS : va_S (fl_A ad 88) s.heap s.heap [] := va_S.rf
  have hl := lv_entry ([.ref (ad 11)]) (n := 2) (Nat.le_of_ble_eq_true rfl)
  rw [lg_entry_eq]
  generalize (lg_sl ([.ref (ad 11)]) ++ List.replicate (2 - (lg_sl ([.ref (ad 11)])).length) Slot.unset).toArray = ls at hl ⊢
  have hl : lv_has ls 2 [(0, .ref (ad 11))] := hl
  have hB := tn_lt (f 5)
  have hG := g_GF_markAll.eq_1 f z g
  refine lv_aload_n hx hb d_GF_markAll_0 rfl (lv_at hl 0 rfl) ?_
  refine gt_GF (k := 5) (v := .int (f 5)) hx hb hts hown hK hP  (hts _ (List.mem_cons_of_mem _ tw_88)) (by decide) rfl rfl d_GF_markAll_1 ?_
  refine lv_istore_n (lv' := [(1, .int (f 5)), (0, .ref (ad 11))]) hx hb d_GF_markAll_4 rfl hl (by decide) rfl (fun ls hl => ?_)
  have lp_5 : ∀ (k_5 : Nat) (f1 : Nat → Int32) (z1 : Nat → Int32) (g1 : Nat → Int64) (ls : Array Slot) (H : Heap) (locs : List Loc), k_5 ≤ (f 5).toNatClampNeg → lv_has ls 2 [(0, .ref (ad 11)), (1, .int (nI k_5))] → va_P D cls (fl_w ad (xc ad cA) 88 (pGF M f1 z1 g1)) H → va_S (fl_A ad 88) s.heap H locs → (∀ (v : (Nat → Int32) × (Nat → Int32) × (Nat → Int64)) (ls : Array Slot) (H : Heap) (locs : List Loc), v = g_GF_markAll_L5  k_5 f1 z1 g1 → lv_has ls 2 [(0, .ref (ad 11))] → va_P D cls (fl_w ad (xc ad cA) 88 (pGF M v.1 v.2.1 v.2.2)) H → va_S (fl_A ad 88) s.heap H locs → W p l e (headSpec w_GF_markAll ({ frames := 0, cells := 0, slots := 0, locals := 0 } : Room)).room s m ([.ref (ad 11)] : List Value).toArray below meth c H locs 0 0 (MQ below (va_Qv (fun M' => M' = (pGF M ((g_GF_markAll f z g).1) ((g_GF_markAll f z g).2.1) ((g_GF_markAll f z g).2.2))) (fl_E D cls ad (xc ad cA) 88) (fl_A ad 88)) ([.ref (ad 11)] : List Value).toArray s 0 0 (fl_A ad 88)) (F0 m 30 ls [])) → W p l e (headSpec w_GF_markAll ({ frames := 0, cells := 0, slots := 0, locals := 0 } : Room)).room s m ([.ref (ad 11)] : List Value).toArray below meth c H locs 0 0 (MQ below (va_Qv (fun M' => M' = (pGF M ((g_GF_markAll f z g).1) ((g_GF_markAll f z g).2.1) ((g_GF_markAll f z g).2.2))) (fl_E D cls ad (xc ad cA) 88) (fl_A ad 88)) ([.ref (ad 11)] : List Value).toArray s 0 0 (fl_A ad 88)) (F0 m 5 ls []) := by
    intro k_5
    induction k_5 with
    | zero =>
      intro f1 z1 g1 ls H locs hbd hl hP hS kk
      have hG : g_GF_markAll_L5  0 f1 z1 g1 = _ := g_GF_markAll_L5.eq_1 ..
      refine lv_iload_n hx hb d_GF_markAll_5 rfl (lv_at hl 1 rfl) ?_
      refine lv_if_le (tgt := 30) hx hb d_GF_markAll_6 (by decide) (fun _ => ?_) (fun h_1 => absurd (by decide) h_1)
      have hl := lv_sub (l' := [(0, .ref (ad 11))]) hl [0] rfl
      exact kk (f1, z1, g1) ls _ _ hG.symm hl hP hS
    | succ k_5 ih_5 =>
      intro f1 z1 g1 ls H locs hbd hl hP hS kk
      have hG : g_GF_markAll_L5  (k_5 + 1) f1 z1 g1 = _ := g_GF_markAll_L5.eq_2 ..
      refine lv_iload_n hx hb d_GF_markAll_5 rfl (lv_at hl 1 rfl) ?_
      refine lv_if_le (tgt := 30) hx hb d_GF_markAll_6 (by decide) (fun h_2 => absurd h_2 (nI_nle (by omega) (by omega))) (fun _ => ?_)
      refine lv_aload_n hx hb d_GF_markAll_9 rfl (lv_at hl 0 rfl) ?_
      refine gt_GF (k := 2) (v := .ref (ad 13)) hx hb hts hown hK hP  (hts _ (List.mem_cons_of_mem _ tw_85)) (by decide) rfl rfl d_GF_markAll_10 ?_
      refine lv_aload_n hx hb d_GF_markAll_13 rfl (lv_at hl 0 rfl) ?_
      refine gt_GF (k := 4) (v := .int (f1 4)) hx hb hts hown hK hP  (hts _ (List.mem_cons_of_mem _ tw_87)) (by decide) rfl rfl d_GF_markAll_14 ?_
      refine lv_iload_n hx hb d_GF_markAll_17 rfl (lv_at hl 1 rfl) ?_
      refine lv_isub hx hb d_GF_markAll_18 ?_
      refine lv_bipush (v := 15) hx hb d_GF_markAll_19 (by decide) ?_
      refine lv_iand hx hb d_GF_markAll_21 ?_
      refine lv_iconst (v := 1) hx hb d_GF_markAll_22 (by decide) ?_
      refine as_GFz hx hb hK hi hP hS  (rfl) (fl_in15 _) d_GF_markAll_23 (fun H locs hP hS => ?_)
      refine lv_iinc (k := 1) (v := nI k_5) (lv' := [(1, .int (nI k_5)), (0, .ref (ad 11))]) hx hb d_GF_markAll_24 hl rfl (fl_dec _) (by decide) rfl (fun ls hl => ?_)
      refine lv_goto (tgt := 5) hx hb d_GF_markAll_27 (by decide) ?_
      have hl := lv_sub (l' := [(0, .ref (ad 11)), (1, .int (nI k_5))]) hl [1, 0] rfl
      exact ih_5 f1 (upd z1 ((((f1 4) - (nI (k_5 + 1))) &&& 15).toNatClampNeg) 1) g1 ls _ _ (by omega) hl hP hS (fun v ls H locs hv => kk v ls H locs (hv.trans hG.symm))
  rw [show f 5 = nI (f 5).toNatClampNeg from hu] at hl
  have hl := lv_sub (l' := [(0, .ref (ad 11)), (1, .int (nI ((f 5).toNatClampNeg)))]) hl [1, 0] rfl
  refine lp_5 ((f 5).toNatClampNeg) f z g ls _ _ (by omega) hl hP hS (fun v ls H locs hv hl hP hS => ?_)
  subst hv
  exact fl_vret hx hb hr hlocks hP hS (by rw [hG]) d_GF_markAll_30
theorem hd_GF_markAll : y_GF_markAll.cls ≠ "java/lang/invoke/MethodHandle" ∧ y_GF_markAll.cls ≠ "java/lang/invoke/VarHandle" ∧ (parseMethodDescriptor y_GF_markAll.desc).map (fun d => d.parameters.length) = some 0 := by decide +kernel
theorem kv_GF_markAll {R : Room} {s : State} {args : Array Value} {c0 : Cond} {own : String} {index : Nat} (hts : ∀ w ∈ c0 :: gw, w.before args s = true) (hl : (Cond.methodLink own index y_GF_markAll).before args s = true) (hR : 0 + 1 ≤ R.frames ∧ 8 + (2 + 11) + 0 ≤ R.locals) : CallW R s args own "FarLink$GroundFrames" index y_GF_markAll b_GF_markAll 2 none w_GF_markAll ({ frames := 0, cells := 0, slots := 0, locals := 0 } : Room) 0 0 0 := ⟨callB_of 0 hts (gw_in tw_599) rfl rfl rfl (hts _ (List.mem_cons_of_mem _ tw_5)) hl hd_GF_markAll hR, hts _ (List.mem_cons_of_mem _ tw_598), hts _ (List.mem_cons_of_mem _ ps_GF_markAll)⟩
def g_GF_recover (f : Nat → Int32) (z : Nat → Int32) (g : Nat → Int64) (x1 : Int32) : (Nat → Int32) × (Nat → Int32) × (Nat → Int64) :=
  if x1 = 0 then (if (f 6) = 4 then ((((g_GF_alert f z g 2).1), ((g_GF_alert f z g 2).2.1), ((g_GF_alert f z g 2).2.2))) else (((upd (upd ((g_GF_markAll (upd f 6 ((f 6) + 1)) z g).1) 10 1) 7 (((g_GF_markAll (upd f 6 ((f 6) + 1)) z g).1) 0)), ((g_GF_markAll (upd f 6 ((f 6) + 1)) z g).2.1), ((g_GF_markAll (upd f 6 ((f 6) + 1)) z g).2.2)))) else (((upd (upd ((g_GF_markAll f z g).1) 10 1) 7 (((g_GF_markAll f z g).1) 0)), ((g_GF_markAll f z g).2.1), ((g_GF_markAll f z g).2.2)))
set_option maxHeartbeats 4000000 in
set_option maxRecDepth 100000 in
theorem c_GF_recover (l : Launch) {D : va_G} {ad : Nat → Nat} {cA : Nat → ClassId} {st : Nat → Nat} (hi : fl_inj ad 88) (M : fl_M) (f : Nat → Int32) (z : Nat → Int32) (g : Nat → Int64) (x1 : Int32) (hu : nn (f 5)) : Met l y_GF_recover w_GF_recover ({ frames := 1, cells := 0, slots := 0, locals := 21 } : Room) (va_Pc [.ref (ad 11), .int x1] (fl_B D cls (xt cA) (xSL st) xFN xMN ad (xc ad cA) 88 (pGF M f z g))) (va_Qv (fun M' => M' = (pGF M ((g_GF_recover f z g x1).1) ((g_GF_recover f z g x1).2.1) ((g_GF_recover f z g x1).2.2))) (fl_E D cls ad (xc ad cA) 88) (fl_A ad 88)) 0 0 (fl_A ad 88) := by
  refine Met.ofW (cc := b_GF_recover) (maxL := 2) (ret := none) (by decide) rfl ?_
  intro p e s m args below meth c s₁ B hml hv
  obtain ⟨rfl, hP, hK, hSt, hN⟩ := hv
  have hx := B.exec
  have hb := B.bytes
  have hr := B.returns
  have hts := atoms_spec (ws := w_GF_recover) B.pre
  have hown : s.vm.findClass "FarLink$GroundFrames" = some m.cls := findClass_of_methodNamed B.named
  have hlocks := B.notSynchronized
  have hS : va_S (fl_A ad 88) s.heap s.heap [] := va_S.rf
  have hl := lv_entry ([.ref (ad 11), .int x1]) (n := 2) (Nat.le_of_ble_eq_true rfl)
  rw [lg_entry_eq]
  generalize (lg_sl ([.ref (ad 11), .int x1]) ++ List.replicate (2 - (lg_sl ([.ref (ad 11), .int x1])).length) Slot.unset).toArray = ls at hl ⊢
  have hl : lv_has ls 2 [(0, .ref (ad 11)), (1, .int x1)] := hl
  have hG := g_GF_recover.eq_1 f z g x1
  refine lv_iload_n hx hb d_GF_recover_0 rfl (lv_at hl 1 rfl) ?_
  refine lv_if_ne (tgt := 18) hx hb d_GF_recover_1 (by decide) (fun h_1 => ?_) (fun h_1 => ?_)
  ·
    have hG := hG.trans (if_neg h_1)
    refine lv_iload_n hx hb d_GF_recover_18 rfl (lv_at hl 1 rfl) ?_
    refine lv_if_ne (tgt := 32) hx hb d_GF_recover_19 (by decide) (fun _ => ?_) (fun h_2 => absurd h_2 (h_1))
    refine lv_aload_n hx hb d_GF_recover_32 rfl (lv_at hl 0 rfl) ?_
    refine fl_callv (va_runV (As := []) (rest := []) ⟨hx, hb, hml, hown, hts⟩ (c_GF_markAll l hi M f z g (hu)) (kv_GF_markAll hts (hts _ (List.mem_cons_of_mem _ tw_596)) ⟨Nat.le_of_ble_eq_true rfl, Nat.le_of_ble_eq_true rfl⟩) (fl_preV hK hSt hN hS hP (by decide) (kc_GF) rfl) rfl rfl hl.1 rfl (lv_room (Nat.le_of_ble_eq_true rfl)) d_GF_recover_33 ⟨Nat.zero_le _, Nat.zero_le _⟩) hS (fun H locs hP hS => ?_)
    refine lv_aload_n hx hb d_GF_recover_36 rfl (lv_at hl 0 rfl) ?_
    refine lv_iconst (v := 1) hx hb d_GF_recover_37 (by decide) ?_
    refine pt_GF (k := 10) hx hb hts hown hK hi hP hS  (hts _ (List.mem_cons_of_mem _ tw_95)) (by decide) rfl rfl (rfl) (rfl) (Nat.le_of_ble_eq_true rfl) rfl d_GF_recover_38 (fun H locs hP hS => ?_)
    refine lv_aload_n hx hb d_GF_recover_41 rfl (lv_at hl 0 rfl) ?_
    refine lv_aload_n hx hb d_GF_recover_42 rfl (lv_at hl 0 rfl) ?_
    refine gt_GF (k := 0) (v := .int (((g_GF_markAll f z g).1) 0)) hx hb hts hown hK hP  (hts _ (List.mem_cons_of_mem _ tw_83)) (by decide) rfl rfl d_GF_recover_43 ?_
    refine pt_GF (k := 7) hx hb hts hown hK hi hP hS  (hts _ (List.mem_cons_of_mem _ tw_90)) (by decide) rfl rfl rfl rfl (Nat.le_of_ble_eq_true rfl) rfl d_GF_recover_46 (fun H locs hP hS => ?_)
    exact fl_vret hx hb hr hlocks hP hS (by rw [hG]) d_GF_recover_49
  ·
    have hG := hG.trans (if_pos h_1)
    refine lv_aload_n hx hb d_GF_recover_4 rfl (lv_at hl 0 rfl) ?_
    refine gt_GF (k := 6) (v := .int (f 6)) hx hb hts hown hK hP  (hts _ (List.mem_cons_of_mem _ tw_89)) (by decide) rfl rfl d_GF_recover_5 ?_
    refine lv_iconst (v := 4) hx hb d_GF_recover_8 (by decide) ?_
    refine lv_icmp_ne (tgt := 18) hx hb d_GF_recover_9 (by decide) (fun h_3 => ?_) (fun h_3 => ?_)
    ·
      have hG := hG.trans (if_neg h_3)
      refine lv_iload_n hx hb d_GF_recover_18 rfl (lv_at hl 1 rfl) ?_
      refine lv_if_ne (tgt := 32) hx hb d_GF_recover_19 (by decide) (fun h_4 => absurd (h_1) h_4) (fun _ => ?_)
      refine lv_aload_n hx hb d_GF_recover_22 rfl (lv_at hl 0 rfl) ?_
      refine lv_dup hx hb d_GF_recover_23 rfl ?_
      refine gt_GF (k := 6) (v := .int (f 6)) hx hb hts hown hK hP  (hts _ (List.mem_cons_of_mem _ tw_89)) (by decide) rfl rfl d_GF_recover_24 ?_
      refine lv_iconst (v := 1) hx hb d_GF_recover_27 (by decide) ?_
      refine lv_iadd hx hb d_GF_recover_28 ?_
      refine pt_GF (k := 6) hx hb hts hown hK hi hP hS  (hts _ (List.mem_cons_of_mem _ tw_89)) (by decide) rfl rfl rfl rfl (Nat.le_of_ble_eq_true rfl) rfl d_GF_recover_29 (fun H locs hP hS => ?_)
      refine lv_aload_n hx hb d_GF_recover_32 rfl (lv_at hl 0 rfl) ?_
      refine fl_callv (va_runV (As := []) (rest := []) ⟨hx, hb, hml, hown, hts⟩ (c_GF_markAll l hi M (upd f 6 ((f 6) + 1)) z g (hu)) (kv_GF_markAll hts (hts _ (List.mem_cons_of_mem _ tw_596)) ⟨Nat.le_of_ble_eq_true rfl, Nat.le_of_ble_eq_true rfl⟩) (fl_preV hK hSt hN hS hP (by decide) (kc_GF) rfl) rfl rfl hl.1 rfl (lv_room (Nat.le_of_ble_eq_true rfl)) d_GF_recover_33 ⟨Nat.zero_le _, Nat.zero_le _⟩) hS (fun H locs hP hS => ?_)
      refine lv_aload_n hx hb d_GF_recover_36 rfl (lv_at hl 0 rfl) ?_
      refine lv_iconst (v := 1) hx hb d_GF_recover_37 (by decide) ?_
      refine pt_GF (k := 10) hx hb hts hown hK hi hP hS  (hts _ (List.mem_cons_of_mem _ tw_95)) (by decide) rfl rfl (rfl) (rfl) (Nat.le_of_ble_eq_true rfl) rfl d_GF_recover_38 (fun H locs hP hS => ?_)
      refine lv_aload_n hx hb d_GF_recover_41 rfl (lv_at hl 0 rfl) ?_
      refine lv_aload_n hx hb d_GF_recover_42 rfl (lv_at hl 0 rfl) ?_
      refine gt_GF (k := 0) (v := .int (((g_GF_markAll (upd f 6 ((f 6) + 1)) z g).1) 0)) hx hb hts hown hK hP  (hts _ (List.mem_cons_of_mem _ tw_83)) (by decide) rfl rfl d_GF_recover_43 ?_
      refine pt_GF (k := 7) hx hb hts hown hK hi hP hS  (hts _ (List.mem_cons_of_mem _ tw_90)) (by decide) rfl rfl rfl rfl (Nat.le_of_ble_eq_true rfl) rfl d_GF_recover_46 (fun H locs hP hS => ?_)
      exact fl_vret hx hb hr hlocks hP hS (by rw [hG]) d_GF_recover_49
    ·
      have hG := hG.trans (if_pos h_3)
      refine lv_aload_n hx hb d_GF_recover_12 rfl (lv_at hl 0 rfl) ?_
      refine lv_iconst (v := 2) hx hb d_GF_recover_13 (by decide) ?_
      refine fl_callv (va_runV (As := [.int 2]) (rest := []) ⟨hx, hb, hml, hown, hts⟩ (c_GF_alert l hi M f z g 2) (kv_GF_alert hts (hts _ (List.mem_cons_of_mem _ tw_584)) ⟨Nat.le_of_ble_eq_true rfl, Nat.le_of_ble_eq_true rfl⟩) (fl_preV hK hSt hN hS hP (by decide) (kc_GF) rfl) rfl rfl hl.1 rfl (lv_room (Nat.le_of_ble_eq_true rfl)) d_GF_recover_14 ⟨Nat.zero_le _, Nat.zero_le _⟩) hS (fun H locs hP hS => ?_)
      exact fl_vret hx hb hr hlocks hP hS (by rw [hG]) d_GF_recover_17
theorem hd_GF_recover : y_GF_recover.cls ≠ "java/lang/invoke/MethodHandle" ∧ y_GF_recover.cls ≠ "java/lang/invoke/VarHandle" ∧ (parseMethodDescriptor y_GF_recover.desc).map (fun d => d.parameters.length) = some 1 := by decide +kernel
theorem kv_GF_recover {R : Room} {s : State} {args : Array Value} {c0 : Cond} {own : String} {index : Nat} (hts : ∀ w ∈ c0 :: gw, w.before args s = true) (hl : (Cond.methodLink own index y_GF_recover).before args s = true) (hR : 1 + 1 ≤ R.frames ∧ 8 + (2 + 11) + 21 ≤ R.locals) : CallW R s args own "FarLink$GroundFrames" index y_GF_recover b_GF_recover 2 none w_GF_recover ({ frames := 1, cells := 0, slots := 0, locals := 21 } : Room) 0 0 1 := ⟨callB_of 1 hts (gw_in tw_595) rfl rfl rfl (hts _ (List.mem_cons_of_mem _ tw_5)) hl hd_GF_recover hR, hts _ (List.mem_cons_of_mem _ tw_594), hts _ (List.mem_cons_of_mem _ ps_GF_recover)⟩
def g_GF_hearActive (f : Nat → Int32) (z : Nat → Int32) (g : Nat → Int64) (x1 : Int32) (x2 : Int32) (x3 : Int32) : (Nat → Int32) × (Nat → Int32) × (Nat → Int64) :=
  if x2 = 0 then (if (((x1 - (f 4)) + (f 5)) &&& 15) ≤ (f 5) then (if x3 = 0 then (((upd ((g_GF_confirm f z g (((x1 - (f 4)) + (f 5)) &&& 15)).1) 10 0), ((g_GF_confirm f z g (((x1 - (f 4)) + (f 5)) &&& 15)).2.1), ((g_GF_confirm f z g (((x1 - (f 4)) + (f 5)) &&& 15)).2.2))) else (if (((g_GF_confirm f z g (((x1 - (f 4)) + (f 5)) &&& 15)).1) 5) ≤ 0 then ((((g_GF_confirm f z g (((x1 - (f 4)) + (f 5)) &&& 15)).1), ((g_GF_confirm f z g (((x1 - (f 4)) + (f 5)) &&& 15)).2.1), ((g_GF_confirm f z g (((x1 - (f 4)) + (f 5)) &&& 15)).2.2))) else (if 0 < (((x1 - (f 4)) + (f 5)) &&& 15) then (if (((x1 - (f 4)) + (f 5)) &&& 15) ≤ 0 then ((((g_GF_recover ((g_GF_confirm f z g (((x1 - (f 4)) + (f 5)) &&& 15)).1) ((g_GF_confirm f z g (((x1 - (f 4)) + (f 5)) &&& 15)).2.1) ((g_GF_confirm f z g (((x1 - (f 4)) + (f 5)) &&& 15)).2.2) 0).1), ((g_GF_recover ((g_GF_confirm f z g (((x1 - (f 4)) + (f 5)) &&& 15)).1) ((g_GF_confirm f z g (((x1 - (f 4)) + (f 5)) &&& 15)).2.1) ((g_GF_confirm f z g (((x1 - (f 4)) + (f 5)) &&& 15)).2.2) 0).2.1), ((g_GF_recover ((g_GF_confirm f z g (((x1 - (f 4)) + (f 5)) &&& 15)).1) ((g_GF_confirm f z g (((x1 - (f 4)) + (f 5)) &&& 15)).2.1) ((g_GF_confirm f z g (((x1 - (f 4)) + (f 5)) &&& 15)).2.2) 0).2.2))) else ((((g_GF_recover ((g_GF_confirm f z g (((x1 - (f 4)) + (f 5)) &&& 15)).1) ((g_GF_confirm f z g (((x1 - (f 4)) + (f 5)) &&& 15)).2.1) ((g_GF_confirm f z g (((x1 - (f 4)) + (f 5)) &&& 15)).2.2) 1).1), ((g_GF_recover ((g_GF_confirm f z g (((x1 - (f 4)) + (f 5)) &&& 15)).1) ((g_GF_confirm f z g (((x1 - (f 4)) + (f 5)) &&& 15)).2.1) ((g_GF_confirm f z g (((x1 - (f 4)) + (f 5)) &&& 15)).2.2) 1).2.1), ((g_GF_recover ((g_GF_confirm f z g (((x1 - (f 4)) + (f 5)) &&& 15)).1) ((g_GF_confirm f z g (((x1 - (f 4)) + (f 5)) &&& 15)).2.1) ((g_GF_confirm f z g (((x1 - (f 4)) + (f 5)) &&& 15)).2.2) 1).2.2)))) else (if (((g_GF_confirm f z g (((x1 - (f 4)) + (f 5)) &&& 15)).1) 10) = 0 then (if (((x1 - (f 4)) + (f 5)) &&& 15) ≤ 0 then ((((g_GF_recover ((g_GF_confirm f z g (((x1 - (f 4)) + (f 5)) &&& 15)).1) ((g_GF_confirm f z g (((x1 - (f 4)) + (f 5)) &&& 15)).2.1) ((g_GF_confirm f z g (((x1 - (f 4)) + (f 5)) &&& 15)).2.2) 0).1), ((g_GF_recover ((g_GF_confirm f z g (((x1 - (f 4)) + (f 5)) &&& 15)).1) ((g_GF_confirm f z g (((x1 - (f 4)) + (f 5)) &&& 15)).2.1) ((g_GF_confirm f z g (((x1 - (f 4)) + (f 5)) &&& 15)).2.2) 0).2.1), ((g_GF_recover ((g_GF_confirm f z g (((x1 - (f 4)) + (f 5)) &&& 15)).1) ((g_GF_confirm f z g (((x1 - (f 4)) + (f 5)) &&& 15)).2.1) ((g_GF_confirm f z g (((x1 - (f 4)) + (f 5)) &&& 15)).2.2) 0).2.2))) else ((((g_GF_recover ((g_GF_confirm f z g (((x1 - (f 4)) + (f 5)) &&& 15)).1) ((g_GF_confirm f z g (((x1 - (f 4)) + (f 5)) &&& 15)).2.1) ((g_GF_confirm f z g (((x1 - (f 4)) + (f 5)) &&& 15)).2.2) 1).1), ((g_GF_recover ((g_GF_confirm f z g (((x1 - (f 4)) + (f 5)) &&& 15)).1) ((g_GF_confirm f z g (((x1 - (f 4)) + (f 5)) &&& 15)).2.1) ((g_GF_confirm f z g (((x1 - (f 4)) + (f 5)) &&& 15)).2.2) 1).2.1), ((g_GF_recover ((g_GF_confirm f z g (((x1 - (f 4)) + (f 5)) &&& 15)).1) ((g_GF_confirm f z g (((x1 - (f 4)) + (f 5)) &&& 15)).2.1) ((g_GF_confirm f z g (((x1 - (f 4)) + (f 5)) &&& 15)).2.2) 1).2.2)))) else ((((g_GF_confirm f z g (((x1 - (f 4)) + (f 5)) &&& 15)).1), ((g_GF_confirm f z g (((x1 - (f 4)) + (f 5)) &&& 15)).2.1), ((g_GF_confirm f z g (((x1 - (f 4)) + (f 5)) &&& 15)).2.2))))))) else ((((g_GF_alert f z g 2).1), ((g_GF_alert f z g 2).2.1), ((g_GF_alert f z g 2).2.2)))) else ((((g_GF_alert f z g 1).1), ((g_GF_alert f z g 1).2.1), ((g_GF_alert f z g 1).2.2)))
set_option maxHeartbeats 4000000 in
set_option maxRecDepth 100000 in
theorem c_GF_hearActive (l : Launch) {D : va_G} {ad : Nat → Nat} {cA : Nat → ClassId} {st : Nat → Nat} (hi : fl_inj ad 88) (M : fl_M) (f : Nat → Int32) (z : Nat → Int32) (g : Nat → Int64) (x1 : Int32) (x2 : Int32) (x3 : Int32) : Met l y_GF_hearActive w_GF_hearActive ({ frames := 2, cells := 0, slots := 0, locals := 42 } : Room) (va_Pc [.ref (ad 11), .int x1, .int x2, .int x3] (fl_B D cls (xt cA) (xSL st) xFN xMN ad (xc ad cA) 88 (pGF M f z g))) (va_Qv (fun M' => M' = (pGF M ((g_GF_hearActive f z g x1 x2 x3).1) ((g_GF_hearActive f z g x1 x2 x3).2.1) ((g_GF_hearActive f z g x1 x2 x3).2.2))) (fl_E D cls ad (xc ad cA) 88) (fl_A ad 88)) 0 0 (fl_A ad 88) := by
  refine Met.ofW (cc := b_GF_hearActive) (maxL := 5) (ret := none) (by decide) rfl ?_
  intro p e s m args below meth c s₁ B hml hv
  obtain ⟨rfl, hP, hK, hSt, hN⟩ := hv
  have hx := B.exec
  have hb := B.bytes
  have hr := B.returns
  have hts := atoms_spec (ws := w_GF_hearActive) B.pre
  have hown : s.vm.findClass "FarLink$GroundFrames" = some m.cls := findClass_of_methodNamed B.named
  have hlocks := B.notSynchronized
  have hS : va_S (fl_A ad 88) s.heap s.heap [] := va_S.rf
  have hl := lv_entry ([.ref (ad 11), .int x1, .int x2, .int x3]) (n := 5) (Nat.le_of_ble_eq_true rfl)
  rw [lg_entry_eq]
  generalize (lg_sl ([.ref (ad 11), .int x1, .int x2, .int x3]) ++ List.replicate (5 - (lg_sl ([.ref (ad 11), .int x1, .int x2, .int x3])).length) Slot.unset).toArray = ls at hl ⊢
  have hl : lv_has ls 5 [(0, .ref (ad 11)), (1, .int x1), (2, .int x2), (3, .int x3)] := hl
  have hG := g_GF_hearActive.eq_1 f z g x1 x2 x3
  refine lv_iload_n hx hb d_GF_hearActive_0 rfl (lv_at hl 1 rfl) ?_
  refine lv_aload_n hx hb d_GF_hearActive_1 rfl (lv_at hl 0 rfl) ?_
  refine gt_GF (k := 4) (v := .int (f 4)) hx hb hts hown hK hP  (hts _ (List.mem_cons_of_mem _ tw_87)) (by decide) rfl rfl d_GF_hearActive_2 ?_
  refine lv_isub hx hb d_GF_hearActive_5 ?_
  refine lv_aload_n hx hb d_GF_hearActive_6 rfl (lv_at hl 0 rfl) ?_
  refine gt_GF (k := 5) (v := .int (f 5)) hx hb hts hown hK hP  (hts _ (List.mem_cons_of_mem _ tw_88)) (by decide) rfl rfl d_GF_hearActive_7 ?_
  refine lv_iadd hx hb d_GF_hearActive_10 ?_
  refine lv_bipush (v := 15) hx hb d_GF_hearActive_11 (by decide) ?_
  refine lv_iand hx hb d_GF_hearActive_13 ?_
  refine lv_istore (lv' := [(4, .int (((x1 - (f 4)) + (f 5)) &&& 15)), (0, .ref (ad 11)), (1, .int x1), (2, .int x2), (3, .int x3)]) hx hb d_GF_hearActive_14 hl (by decide) rfl (fun ls hl => ?_)
  refine lv_iload_n hx hb d_GF_hearActive_16 rfl (lv_at hl 3 rfl) ?_
  refine lv_if_eq (tgt := 28) hx hb d_GF_hearActive_17 (by decide) (fun h_1 => ?_) (fun h_1 => ?_)
  ·
    have hG := hG.trans (if_pos h_1)
    refine lv_iload hx hb d_GF_hearActive_28 (lv_at hl 0 rfl) ?_
    refine lv_aload_n hx hb d_GF_hearActive_30 rfl (lv_at hl 1 rfl) ?_
    refine gt_GF (k := 5) (v := .int (f 5)) hx hb hts hown hK hP  (hts _ (List.mem_cons_of_mem _ tw_88)) (by decide) rfl rfl d_GF_hearActive_31 ?_
    refine lv_icmp_le (tgt := 45) hx hb d_GF_hearActive_34 (by decide) (fun h_2 => ?_) (fun h_2 => ?_)
    ·
      have hG := hG.trans (if_pos h_2)
      refine lv_aload_n hx hb d_GF_hearActive_45 rfl (lv_at hl 1 rfl) ?_
      refine lv_iload hx hb d_GF_hearActive_46 (lv_at hl 0 rfl) ?_
      refine fl_callv (va_runV (As := [.int (((x1 - (f 4)) + (f 5)) &&& 15)]) (rest := []) ⟨hx, hb, hml, hown, hts⟩ (c_GF_confirm l hi M f z g (((x1 - (f 4)) + (f 5)) &&& 15)) (kv_GF_confirm hts (hts _ (List.mem_cons_of_mem _ tw_588)) ⟨Nat.le_of_ble_eq_true rfl, Nat.le_of_ble_eq_true rfl⟩) (fl_preV hK hSt hN hS hP (by decide) (kc_GF) rfl) rfl rfl hl.1 rfl (lv_room (Nat.le_of_ble_eq_true rfl)) d_GF_hearActive_48 ⟨Nat.zero_le _, Nat.zero_le _⟩) hS (fun H locs hP hS => ?_)
      refine lv_iload_n hx hb d_GF_hearActive_51 rfl (lv_at hl 4 rfl) ?_
      refine lv_if_ne (tgt := 63) hx hb d_GF_hearActive_52 (by decide) (fun h_3 => ?_) (fun h_3 => ?_)
      ·
        have hG := hG.trans (if_neg h_3)
        refine lv_aload_n hx hb d_GF_hearActive_63 rfl (lv_at hl 1 rfl) ?_
        refine gt_GF (k := 5) (v := .int (((g_GF_confirm f z g (((x1 - (f 4)) + (f 5)) &&& 15)).1) 5)) hx hb hts hown hK hP  (hts _ (List.mem_cons_of_mem _ tw_88)) (by decide) rfl rfl d_GF_hearActive_64 ?_
        refine lv_if_le (tgt := 96) hx hb d_GF_hearActive_67 (by decide) (fun h_4 => ?_) (fun h_4 => ?_)
        ·
          have hG := hG.trans (if_pos h_4)
          exact fl_vret hx hb hr hlocks hP hS (by rw [hG]) d_GF_hearActive_96
        ·
          have hG := hG.trans (if_neg h_4)
          refine lv_iload hx hb d_GF_hearActive_70 (lv_at hl 0 rfl) ?_
          refine lv_if_gt (tgt := 82) hx hb d_GF_hearActive_72 (by decide) (fun h_5 => ?_) (fun h_5 => ?_)
          ·
            have hG := hG.trans (if_pos h_5)
            refine lv_aload_n hx hb d_GF_hearActive_82 rfl (lv_at hl 1 rfl) ?_
            refine lv_iload hx hb d_GF_hearActive_83 (lv_at hl 0 rfl) ?_
            refine lv_if_le (tgt := 92) hx hb d_GF_hearActive_85 (by decide) (fun h_6 => ?_) (fun h_6 => ?_)
            ·
              have hG := hG.trans (if_pos h_6)
              refine lv_iconst (v := 0) hx hb d_GF_hearActive_92 (by decide) ?_
              refine fl_callv (va_runV (As := [.int 0]) (rest := []) ⟨hx, hb, hml, hown, hts⟩ (c_GF_recover l hi M ((g_GF_confirm f z g (((x1 - (f 4)) + (f 5)) &&& 15)).1) ((g_GF_confirm f z g (((x1 - (f 4)) + (f 5)) &&& 15)).2.1) ((g_GF_confirm f z g (((x1 - (f 4)) + (f 5)) &&& 15)).2.2) 0 (nn_pos (by assumption))) (kv_GF_recover hts (hts _ (List.mem_cons_of_mem _ tw_592)) ⟨Nat.le_of_ble_eq_true rfl, Nat.le_of_ble_eq_true rfl⟩) (fl_preV hK hSt hN hS hP (by decide) (kc_GF) rfl) rfl rfl hl.1 rfl (lv_room (Nat.le_of_ble_eq_true rfl)) d_GF_hearActive_93 ⟨Nat.zero_le _, Nat.zero_le _⟩) hS (fun H locs hP hS => ?_)
              exact fl_vret hx hb hr hlocks hP hS (by rw [hG]) d_GF_hearActive_96
            ·
              have hG := hG.trans (if_neg h_6)
              refine lv_iconst (v := 1) hx hb d_GF_hearActive_88 (by decide) ?_
              refine lv_goto (tgt := 93) hx hb d_GF_hearActive_89 (by decide) ?_
              refine fl_callv (va_runV (As := [.int 1]) (rest := []) ⟨hx, hb, hml, hown, hts⟩ (c_GF_recover l hi M ((g_GF_confirm f z g (((x1 - (f 4)) + (f 5)) &&& 15)).1) ((g_GF_confirm f z g (((x1 - (f 4)) + (f 5)) &&& 15)).2.1) ((g_GF_confirm f z g (((x1 - (f 4)) + (f 5)) &&& 15)).2.2) 1 (nn_pos (by assumption))) (kv_GF_recover hts (hts _ (List.mem_cons_of_mem _ tw_592)) ⟨Nat.le_of_ble_eq_true rfl, Nat.le_of_ble_eq_true rfl⟩) (fl_preV hK hSt hN hS hP (by decide) (kc_GF) rfl) rfl rfl hl.1 rfl (lv_room (Nat.le_of_ble_eq_true rfl)) d_GF_hearActive_93 ⟨Nat.zero_le _, Nat.zero_le _⟩) hS (fun H locs hP hS => ?_)
              exact fl_vret hx hb hr hlocks hP hS (by rw [hG]) d_GF_hearActive_96
          ·
            have hG := hG.trans (if_neg h_5)
            refine lv_aload_n hx hb d_GF_hearActive_75 rfl (lv_at hl 1 rfl) ?_
            refine gt_GF (k := 10) (v := .int (((g_GF_confirm f z g (((x1 - (f 4)) + (f 5)) &&& 15)).1) 10)) hx hb hts hown hK hP  (hts _ (List.mem_cons_of_mem _ tw_95)) (by decide) rfl rfl d_GF_hearActive_76 ?_
            refine lv_if_ne (tgt := 96) hx hb d_GF_hearActive_79 (by decide) (fun h_7 => ?_) (fun h_7 => ?_)
            ·
              have hG := hG.trans (if_neg h_7)
              exact fl_vret hx hb hr hlocks hP hS (by rw [hG]) d_GF_hearActive_96
            ·
              have hG := hG.trans (if_pos h_7)
              refine lv_aload_n hx hb d_GF_hearActive_82 rfl (lv_at hl 1 rfl) ?_
              refine lv_iload hx hb d_GF_hearActive_83 (lv_at hl 0 rfl) ?_
              refine lv_if_le (tgt := 92) hx hb d_GF_hearActive_85 (by decide) (fun h_8 => ?_) (fun h_8 => ?_)
              ·
                have hG := hG.trans (if_pos h_8)
                refine lv_iconst (v := 0) hx hb d_GF_hearActive_92 (by decide) ?_
                refine fl_callv (va_runV (As := [.int 0]) (rest := []) ⟨hx, hb, hml, hown, hts⟩ (c_GF_recover l hi M ((g_GF_confirm f z g (((x1 - (f 4)) + (f 5)) &&& 15)).1) ((g_GF_confirm f z g (((x1 - (f 4)) + (f 5)) &&& 15)).2.1) ((g_GF_confirm f z g (((x1 - (f 4)) + (f 5)) &&& 15)).2.2) 0 (nn_pos (by assumption))) (kv_GF_recover hts (hts _ (List.mem_cons_of_mem _ tw_592)) ⟨Nat.le_of_ble_eq_true rfl, Nat.le_of_ble_eq_true rfl⟩) (fl_preV hK hSt hN hS hP (by decide) (kc_GF) rfl) rfl rfl hl.1 rfl (lv_room (Nat.le_of_ble_eq_true rfl)) d_GF_hearActive_93 ⟨Nat.zero_le _, Nat.zero_le _⟩) hS (fun H locs hP hS => ?_)
                exact fl_vret hx hb hr hlocks hP hS (by rw [hG]) d_GF_hearActive_96
              ·
                have hG := hG.trans (if_neg h_8)
                refine lv_iconst (v := 1) hx hb d_GF_hearActive_88 (by decide) ?_
                refine lv_goto (tgt := 93) hx hb d_GF_hearActive_89 (by decide) ?_
                refine fl_callv (va_runV (As := [.int 1]) (rest := []) ⟨hx, hb, hml, hown, hts⟩ (c_GF_recover l hi M ((g_GF_confirm f z g (((x1 - (f 4)) + (f 5)) &&& 15)).1) ((g_GF_confirm f z g (((x1 - (f 4)) + (f 5)) &&& 15)).2.1) ((g_GF_confirm f z g (((x1 - (f 4)) + (f 5)) &&& 15)).2.2) 1 (nn_pos (by assumption))) (kv_GF_recover hts (hts _ (List.mem_cons_of_mem _ tw_592)) ⟨Nat.le_of_ble_eq_true rfl, Nat.le_of_ble_eq_true rfl⟩) (fl_preV hK hSt hN hS hP (by decide) (kc_GF) rfl) rfl rfl hl.1 rfl (lv_room (Nat.le_of_ble_eq_true rfl)) d_GF_hearActive_93 ⟨Nat.zero_le _, Nat.zero_le _⟩) hS (fun H locs hP hS => ?_)
                exact fl_vret hx hb hr hlocks hP hS (by rw [hG]) d_GF_hearActive_96
      ·
        have hG := hG.trans (if_pos h_3)
        refine lv_aload_n hx hb d_GF_hearActive_55 rfl (lv_at hl 1 rfl) ?_
        refine lv_iconst (v := 0) hx hb d_GF_hearActive_56 (by decide) ?_
        refine pt_GF (k := 10) hx hb hts hown hK hi hP hS  (hts _ (List.mem_cons_of_mem _ tw_95)) (by decide) rfl rfl (rfl) (rfl) (Nat.le_of_ble_eq_true rfl) rfl d_GF_hearActive_57 (fun H locs hP hS => ?_)
        refine lv_goto (tgt := 96) hx hb d_GF_hearActive_60 (by decide) ?_
        exact fl_vret hx hb hr hlocks hP hS (by rw [hG]) d_GF_hearActive_96
    ·
      have hG := hG.trans (if_neg h_2)
      refine lv_aload_n hx hb d_GF_hearActive_37 rfl (lv_at hl 1 rfl) ?_
      refine lv_iconst (v := 2) hx hb d_GF_hearActive_38 (by decide) ?_
      refine fl_callv (va_runV (As := [.int 2]) (rest := []) ⟨hx, hb, hml, hown, hts⟩ (c_GF_alert l hi M f z g 2) (kv_GF_alert hts (hts _ (List.mem_cons_of_mem _ tw_584)) ⟨Nat.le_of_ble_eq_true rfl, Nat.le_of_ble_eq_true rfl⟩) (fl_preV hK hSt hN hS hP (by decide) (kc_GF) rfl) rfl rfl hl.1 rfl (lv_room (Nat.le_of_ble_eq_true rfl)) d_GF_hearActive_39 ⟨Nat.zero_le _, Nat.zero_le _⟩) hS (fun H locs hP hS => ?_)
      refine lv_goto (tgt := 96) hx hb d_GF_hearActive_42 (by decide) ?_
      exact fl_vret hx hb hr hlocks hP hS (by rw [hG]) d_GF_hearActive_96
  ·
    have hG := hG.trans (if_neg h_1)
    refine lv_aload_n hx hb d_GF_hearActive_20 rfl (lv_at hl 1 rfl) ?_
    refine lv_iconst (v := 1) hx hb d_GF_hearActive_21 (by decide) ?_
    refine fl_callv (va_runV (As := [.int 1]) (rest := []) ⟨hx, hb, hml, hown, hts⟩ (c_GF_alert l hi M f z g 1) (kv_GF_alert hts (hts _ (List.mem_cons_of_mem _ tw_584)) ⟨Nat.le_of_ble_eq_true rfl, Nat.le_of_ble_eq_true rfl⟩) (fl_preV hK hSt hN hS hP (by decide) (kc_GF) rfl) rfl rfl hl.1 rfl (lv_room (Nat.le_of_ble_eq_true rfl)) d_GF_hearActive_22 ⟨Nat.zero_le _, Nat.zero_le _⟩) hS (fun H locs hP hS => ?_)
    refine lv_goto (tgt := 96) hx hb d_GF_hearActive_25 (by decide) ?_
    exact fl_vret hx hb hr hlocks hP hS (by rw [hG]) d_GF_hearActive_96
theorem hd_GF_hearActive : y_GF_hearActive.cls ≠ "java/lang/invoke/MethodHandle" ∧ y_GF_hearActive.cls ≠ "java/lang/invoke/VarHandle" ∧ (parseMethodDescriptor y_GF_hearActive.desc).map (fun d => d.parameters.length) = some 3 := by decide +kernel
theorem kv_GF_hearActive {R : Room} {s : State} {args : Array Value} {c0 : Cond} {own : String} {index : Nat} (hts : ∀ w ∈ c0 :: gw, w.before args s = true) (hl : (Cond.methodLink own index y_GF_hearActive).before args s = true) (hR : 2 + 1 ≤ R.frames ∧ 8 + (5 + 11) + 42 ≤ R.locals) : CallW R s args own "FarLink$GroundFrames" index y_GF_hearActive b_GF_hearActive 5 none w_GF_hearActive ({ frames := 2, cells := 0, slots := 0, locals := 42 } : Room) 0 0 3 := ⟨callB_of 3 hts (gw_in tw_583) rfl rfl rfl (hts _ (List.mem_cons_of_mem _ tw_5)) hl hd_GF_hearActive hR, hts _ (List.mem_cons_of_mem _ tw_582), hts _ (List.mem_cons_of_mem _ ps_GF_hearActive)⟩
def g_GF_hear (f : Nat → Int32) (z : Nat → Int32) (g : Nat → Int64) (x1 : Int32) (x2 : Int32) (x3 : Int32) : (Nat → Int32) × (Nat → Int32) × (Nat → Int64) :=
  if (f 3) = 0 then ((((g_GF_hearActive f z g x1 x2 x3).1), ((g_GF_hearActive f z g x1 x2 x3).2.1), ((g_GF_hearActive f z g x1 x2 x3).2.2))) else (if (f 3) = 1 then (if x2 = 0 then ((((g_GF_direct f z g 2).1), ((g_GF_direct f z g 2).2.1), ((g_GF_direct f z g 2).2.2))) else ((f, z, g))) else (if x2 = 0 then (if x1 = (f 4) then (if x3 = 0 then (((upd (upd f 3 0) 9 0), z, g)) else ((f, z, g))) else ((f, z, g))) else ((((g_GF_direct f z g 1).1), ((g_GF_direct f z g 1).2.1), ((g_GF_direct f z g 1).2.2)))))
set_option maxHeartbeats 4000000 in
set_option maxRecDepth 100000 in
theorem c_GF_hear (l : Launch) {D : va_G} {ad : Nat → Nat} {cA : Nat → ClassId} {st : Nat → Nat} (hi : fl_inj ad 88) (M : fl_M) (f : Nat → Int32) (z : Nat → Int32) (g : Nat → Int64) (x1 : Int32) (x2 : Int32) (x3 : Int32) : Met l y_GF_hear w_GF_hear ({ frames := 3, cells := 0, slots := 0, locals := 66 } : Room) (va_Pc [.ref (ad 11), .int x1, .int x2, .int x3] (fl_B D cls (xt cA) (xSL st) xFN xMN ad (xc ad cA) 88 (pGF M f z g))) (va_Qv (fun M' => M' = (pGF M ((g_GF_hear f z g x1 x2 x3).1) ((g_GF_hear f z g x1 x2 x3).2.1) ((g_GF_hear f z g x1 x2 x3).2.2))) (fl_E D cls ad (xc ad cA) 88) (fl_A ad 88)) 0 0 (fl_A ad 88) := by
  refine Met.ofW (cc := b_GF_hear) (maxL := 4) (ret := none) (by decide) rfl ?_
  intro p e s m args below meth c s₁ B hml hv
  obtain ⟨rfl, hP, hK, hSt, hN⟩ := hv
  have hx := B.exec
  have hb := B.bytes
  have hr := B.returns
  have hts := atoms_spec (ws := w_GF_hear) B.pre
  have hown : s.vm.findClass "FarLink$GroundFrames" = some m.cls := findClass_of_methodNamed B.named
  have hlocks := B.notSynchronized
  have hS : va_S (fl_A ad 88) s.heap s.heap [] := va_S.rf
  have hl := lv_entry ([.ref (ad 11), .int x1, .int x2, .int x3]) (n := 4) (Nat.le_of_ble_eq_true rfl)
  rw [lg_entry_eq]
  generalize (lg_sl ([.ref (ad 11), .int x1, .int x2, .int x3]) ++ List.replicate (4 - (lg_sl ([.ref (ad 11), .int x1, .int x2, .int x3])).length) Slot.unset).toArray = ls at hl ⊢
  have hl : lv_has ls 4 [(0, .ref (ad 11)), (1, .int x1), (2, .int x2), (3, .int x3)] := hl
  have hG := g_GF_hear.eq_1 f z g x1 x2 x3
  refine lv_aload_n hx hb d_GF_hear_0 rfl (lv_at hl 0 rfl) ?_
  refine gt_GF (k := 3) (v := .int (f 3)) hx hb hts hown hK hP  (hts _ (List.mem_cons_of_mem _ tw_86)) (by decide) rfl rfl d_GF_hear_1 ?_
  refine lv_if_ne (tgt := 17) hx hb d_GF_hear_4 (by decide) (fun h_1 => ?_) (fun h_1 => ?_)
  ·
    have hG := hG.trans (if_neg h_1)
    refine lv_aload_n hx hb d_GF_hear_17 rfl (lv_at hl 0 rfl) ?_
    refine gt_GF (k := 3) (v := .int (f 3)) hx hb hts hown hK hP  (hts _ (List.mem_cons_of_mem _ tw_86)) (by decide) rfl rfl d_GF_hear_18 ?_
    refine lv_iconst (v := 1) hx hb d_GF_hear_21 (by decide) ?_
    refine lv_icmp_ne (tgt := 37) hx hb d_GF_hear_22 (by decide) (fun h_2 => ?_) (fun h_2 => ?_)
    ·
      have hG := hG.trans (if_neg h_2)
      refine lv_iload_n hx hb d_GF_hear_37 rfl (lv_at hl 2 rfl) ?_
      refine lv_if_eq (tgt := 49) hx hb d_GF_hear_38 (by decide) (fun h_3 => ?_) (fun h_3 => ?_)
      ·
        have hG := hG.trans (if_pos h_3)
        refine lv_iload_n hx hb d_GF_hear_49 rfl (lv_at hl 1 rfl) ?_
        refine lv_aload_n hx hb d_GF_hear_50 rfl (lv_at hl 0 rfl) ?_
        refine gt_GF (k := 4) (v := .int (f 4)) hx hb hts hown hK hP  (hts _ (List.mem_cons_of_mem _ tw_87)) (by decide) rfl rfl d_GF_hear_51 ?_
        refine lv_icmp_ne (tgt := 71) hx hb d_GF_hear_54 (by decide) (fun h_4 => ?_) (fun h_4 => ?_)
        ·
          have hG := hG.trans (if_neg h_4)
          exact fl_vret hx hb hr hlocks hP hS (by rw [hG]) d_GF_hear_71
        ·
          have hG := hG.trans (if_pos h_4)
          refine lv_iload_n hx hb d_GF_hear_57 rfl (lv_at hl 3 rfl) ?_
          refine lv_if_ne (tgt := 71) hx hb d_GF_hear_58 (by decide) (fun h_5 => ?_) (fun h_5 => ?_)
          ·
            have hG := hG.trans (if_neg h_5)
            exact fl_vret hx hb hr hlocks hP hS (by rw [hG]) d_GF_hear_71
          ·
            have hG := hG.trans (if_pos h_5)
            refine lv_aload_n hx hb d_GF_hear_61 rfl (lv_at hl 0 rfl) ?_
            refine lv_iconst (v := 0) hx hb d_GF_hear_62 (by decide) ?_
            refine pt_GF (k := 3) hx hb hts hown hK hi hP hS  (hts _ (List.mem_cons_of_mem _ tw_86)) (by decide) rfl rfl rfl rfl (Nat.le_of_ble_eq_true rfl) rfl d_GF_hear_63 (fun H locs hP hS => ?_)
            refine lv_aload_n hx hb d_GF_hear_66 rfl (lv_at hl 0 rfl) ?_
            refine lv_iconst (v := 0) hx hb d_GF_hear_67 (by decide) ?_
            refine pt_GF (k := 9) hx hb hts hown hK hi hP hS  (hts _ (List.mem_cons_of_mem _ tw_93)) (by decide) rfl rfl (rfl) (rfl) (Nat.le_of_ble_eq_true rfl) rfl d_GF_hear_68 (fun H locs hP hS => ?_)
            exact fl_vret hx hb hr hlocks hP hS (by rw [hG]) d_GF_hear_71
      ·
        have hG := hG.trans (if_neg h_3)
        refine lv_aload_n hx hb d_GF_hear_41 rfl (lv_at hl 0 rfl) ?_
        refine lv_iconst (v := 1) hx hb d_GF_hear_42 (by decide) ?_
        refine fl_callv (va_runV (As := [.int 1]) (rest := []) ⟨hx, hb, hml, hown, hts⟩ (c_GF_direct l hi M f z g 1) (kv_GF_direct hts (hts _ (List.mem_cons_of_mem _ tw_600)) ⟨Nat.le_of_ble_eq_true rfl, Nat.le_of_ble_eq_true rfl⟩) (fl_preV hK hSt hN hS hP (by decide) (kc_GF) rfl) rfl rfl hl.1 rfl (lv_room (Nat.le_of_ble_eq_true rfl)) d_GF_hear_43 ⟨Nat.zero_le _, Nat.zero_le _⟩) hS (fun H locs hP hS => ?_)
        refine lv_goto (tgt := 71) hx hb d_GF_hear_46 (by decide) ?_
        exact fl_vret hx hb hr hlocks hP hS (by rw [hG]) d_GF_hear_71
    ·
      have hG := hG.trans (if_pos h_2)
      refine lv_iload_n hx hb d_GF_hear_25 rfl (lv_at hl 2 rfl) ?_
      refine lv_if_ne (tgt := 71) hx hb d_GF_hear_26 (by decide) (fun h_6 => ?_) (fun h_6 => ?_)
      ·
        have hG := hG.trans (if_neg h_6)
        exact fl_vret hx hb hr hlocks hP hS (by rw [hG]) d_GF_hear_71
      ·
        have hG := hG.trans (if_pos h_6)
        refine lv_aload_n hx hb d_GF_hear_29 rfl (lv_at hl 0 rfl) ?_
        refine lv_iconst (v := 2) hx hb d_GF_hear_30 (by decide) ?_
        refine fl_callv (va_runV (As := [.int 2]) (rest := []) ⟨hx, hb, hml, hown, hts⟩ (c_GF_direct l hi M f z g 2) (kv_GF_direct hts (hts _ (List.mem_cons_of_mem _ tw_600)) ⟨Nat.le_of_ble_eq_true rfl, Nat.le_of_ble_eq_true rfl⟩) (fl_preV hK hSt hN hS hP (by decide) (kc_GF) rfl) rfl rfl hl.1 rfl (lv_room (Nat.le_of_ble_eq_true rfl)) d_GF_hear_31 ⟨Nat.zero_le _, Nat.zero_le _⟩) hS (fun H locs hP hS => ?_)
        refine lv_goto (tgt := 71) hx hb d_GF_hear_34 (by decide) ?_
        exact fl_vret hx hb hr hlocks hP hS (by rw [hG]) d_GF_hear_71
  ·
    have hG := hG.trans (if_pos h_1)
    refine lv_aload_n hx hb d_GF_hear_7 rfl (lv_at hl 0 rfl) ?_
    refine lv_iload_n hx hb d_GF_hear_8 rfl (lv_at hl 1 rfl) ?_
    refine lv_iload_n hx hb d_GF_hear_9 rfl (lv_at hl 2 rfl) ?_
    refine lv_iload_n hx hb d_GF_hear_10 rfl (lv_at hl 3 rfl) ?_
    refine fl_callv (va_runV (As := [.int x1, .int x2, .int x3]) (rest := []) ⟨hx, hb, hml, hown, hts⟩ (c_GF_hearActive l hi M f z g x1 x2 x3) (kv_GF_hearActive hts (hts _ (List.mem_cons_of_mem _ tw_580)) ⟨Nat.le_of_ble_eq_true rfl, Nat.le_of_ble_eq_true rfl⟩) (fl_preV hK hSt hN hS hP (by decide) (kc_GF) rfl) rfl rfl hl.1 rfl (lv_room (Nat.le_of_ble_eq_true rfl)) d_GF_hear_11 ⟨Nat.zero_le _, Nat.zero_le _⟩) hS (fun H locs hP hS => ?_)
    refine lv_goto (tgt := 71) hx hb d_GF_hear_14 (by decide) ?_
    exact fl_vret hx hb hr hlocks hP hS (by rw [hG]) d_GF_hear_71
theorem hd_GF_hear : y_GF_hear.cls ≠ "java/lang/invoke/MethodHandle" ∧ y_GF_hear.cls ≠ "java/lang/invoke/VarHandle" ∧ (parseMethodDescriptor y_GF_hear.desc).map (fun d => d.parameters.length) = some 3 := by decide +kernel
theorem kv_GF_hear {R : Room} {s : State} {args : Array Value} {c0 : Cond} {own : String} {index : Nat} (hts : ∀ w ∈ c0 :: gw, w.before args s = true) (hl : (Cond.methodLink own index y_GF_hear).before args s = true) (hR : 3 + 1 ≤ R.frames ∧ 8 + (4 + 11) + 66 ≤ R.locals) : CallW R s args own "FarLink$GroundFrames" index y_GF_hear b_GF_hear 4 none w_GF_hear ({ frames := 3, cells := 0, slots := 0, locals := 66 } : Room) 0 0 3 := ⟨callB_of 3 hts (gw_in tw_579) rfl rfl rfl (hts _ (List.mem_cons_of_mem _ tw_5)) hl hd_GF_hear hR, hts _ (List.mem_cons_of_mem _ tw_577), hts _ (List.mem_cons_of_mem _ tw_578)⟩
def g_GF_stepClock (f : Nat → Int32) (z : Nat → Int32) (g : Nat → Int64) : (Nat → Int32) × (Nat → Int32) × (Nat → Int64) :=
  if (f 3) = 0 then (if (f 5) = 0 then ((f, z, g)) else (if ((f 7) - 1) ≤ 0 then (if (f 6) = 4 then ((((g_GF_alert (upd (upd f 7 ((f 7) - 1)) 7 (f 0)) z g 2).1), ((g_GF_alert (upd (upd f 7 ((f 7) - 1)) 7 (f 0)) z g 2).2.1), ((g_GF_alert (upd (upd f 7 ((f 7) - 1)) 7 (f 0)) z g 2).2.2))) else ((((g_GF_markAll (upd (upd (upd f 7 ((f 7) - 1)) 7 (f 0)) 6 ((f 6) + 1)) z g).1), ((g_GF_markAll (upd (upd (upd f 7 ((f 7) - 1)) 7 (f 0)) 6 ((f 6) + 1)) z g).2.1), ((g_GF_markAll (upd (upd (upd f 7 ((f 7) - 1)) 7 (f 0)) 6 ((f 6) + 1)) z g).2.2)))) else (((upd f 7 ((f 7) - 1)), z, g)))) else (if ((f 7) - 1) ≤ 0 then (((upd (upd (upd f 7 ((f 7) - 1)) 7 (f 0)) 9 1), z, g)) else (((upd f 7 ((f 7) - 1)), z, g)))
set_option maxHeartbeats 4000000 in
set_option maxRecDepth 100000 in
theorem c_GF_stepClock (l : Launch) {D : va_G} {ad : Nat → Nat} {cA : Nat → ClassId} {st : Nat → Nat} (hi : fl_inj ad 88) (M : fl_M) (f : Nat → Int32) (z : Nat → Int32) (g : Nat → Int64) (hu : nn (f 5)) : Met l y_GF_stepClock w_GF_stepClock ({ frames := 1, cells := 0, slots := 0, locals := 21 } : Room) (va_Pc [.ref (ad 11)] (fl_B D cls (xt cA) (xSL st) xFN xMN ad (xc ad cA) 88 (pGF M f z g))) (va_Qv (fun M' => M' = (pGF M ((g_GF_stepClock f z g).1) ((g_GF_stepClock f z g).2.1) ((g_GF_stepClock f z g).2.2))) (fl_E D cls ad (xc ad cA) 88) (fl_A ad 88)) 0 0 (fl_A ad 88) := by
  refine Met.ofW (cc := b_GF_stepClock) (maxL := 1) (ret := none) (by decide) rfl ?_
  intro p e s m args below meth c s₁ B hml hv
  obtain ⟨rfl, hP, hK, hSt, hN⟩ := hv
  have hx := B.exec
  have hb := B.bytes
  have hr := B.returns
  have hts := atoms_spec (ws := w_GF_stepClock) B.pre
  have hown : s.vm.findClass "FarLink$GroundFrames" = some m.cls := findClass_of_methodNamed B.named
  have hlocks := B.notSynchronized
  have hS : va_S (fl_A ad 88) s.heap s.heap [] := va_S.rf
  have hl := lv_entry ([.ref (ad 11)]) (n := 1) (Nat.le_of_ble_eq_true rfl)
  rw [lg_entry_eq]
  generalize (lg_sl ([.ref (ad 11)]) ++ List.replicate (1 - (lg_sl ([.ref (ad 11)])).length) Slot.unset).toArray = ls at hl ⊢
  have hl : lv_has ls 1 [(0, .ref (ad 11))] := hl
  have hG := g_GF_stepClock.eq_1 f z g
  refine lv_aload_n hx hb d_GF_stepClock_0 rfl (lv_at hl 0 rfl) ?_
  refine gt_GF (k := 3) (v := .int (f 3)) hx hb hts hown hK hP  (hts _ (List.mem_cons_of_mem _ tw_86)) (by decide) rfl rfl d_GF_stepClock_1 ?_
  refine lv_if_ne (tgt := 15) hx hb d_GF_stepClock_4 (by decide) (fun h_1 => ?_) (fun h_1 => ?_)
  ·
    have hG := hG.trans (if_neg h_1)
    refine lv_aload_n hx hb d_GF_stepClock_15 rfl (lv_at hl 0 rfl) ?_
    refine lv_dup hx hb d_GF_stepClock_16 rfl ?_
    refine gt_GF (k := 7) (v := .int (f 7)) hx hb hts hown hK hP  (hts _ (List.mem_cons_of_mem _ tw_90)) (by decide) rfl rfl d_GF_stepClock_17 ?_
    refine lv_iconst (v := 1) hx hb d_GF_stepClock_20 (by decide) ?_
    refine lv_isub hx hb d_GF_stepClock_21 ?_
    refine pt_GF (k := 7) hx hb hts hown hK hi hP hS  (hts _ (List.mem_cons_of_mem _ tw_90)) (by decide) rfl rfl rfl rfl (Nat.le_of_ble_eq_true rfl) rfl d_GF_stepClock_22 (fun H locs hP hS => ?_)
    refine lv_aload_n hx hb d_GF_stepClock_25 rfl (lv_at hl 0 rfl) ?_
    refine gt_GF (k := 7) (v := .int ((f 7) - 1)) hx hb hts hown hK hP  (hts _ (List.mem_cons_of_mem _ tw_90)) (by decide) rfl rfl d_GF_stepClock_26 ?_
    refine lv_if_le (tgt := 33) hx hb d_GF_stepClock_29 (by decide) (fun h_2 => ?_) (fun h_2 => ?_)
    ·
      have hG := hG.trans (if_pos h_2)
      refine lv_aload_n hx hb d_GF_stepClock_33 rfl (lv_at hl 0 rfl) ?_
      refine lv_aload_n hx hb d_GF_stepClock_34 rfl (lv_at hl 0 rfl) ?_
      refine gt_GF (k := 0) (v := .int (f 0)) hx hb hts hown hK hP  (hts _ (List.mem_cons_of_mem _ tw_83)) (by decide) rfl rfl d_GF_stepClock_35 ?_
      refine pt_GF (k := 7) hx hb hts hown hK hi hP hS  (hts _ (List.mem_cons_of_mem _ tw_90)) (by decide) rfl rfl rfl rfl (Nat.le_of_ble_eq_true rfl) rfl d_GF_stepClock_38 (fun H locs hP hS => ?_)
      refine lv_aload_n hx hb d_GF_stepClock_41 rfl (lv_at hl 0 rfl) ?_
      refine gt_GF (k := 3) (v := .int (f 3)) hx hb hts hown hK hP  (hts _ (List.mem_cons_of_mem _ tw_86)) (by decide) rfl rfl d_GF_stepClock_42 ?_
      refine lv_if_eq (tgt := 56) hx hb d_GF_stepClock_45 (by decide) (fun h_3 => absurd h_3 (h_1)) (fun _ => ?_)
      refine lv_aload_n hx hb d_GF_stepClock_48 rfl (lv_at hl 0 rfl) ?_
      refine lv_iconst (v := 1) hx hb d_GF_stepClock_49 (by decide) ?_
      refine pt_GF (k := 9) hx hb hts hown hK hi hP hS  (hts _ (List.mem_cons_of_mem _ tw_93)) (by decide) rfl rfl (rfl) (rfl) (Nat.le_of_ble_eq_true rfl) rfl d_GF_stepClock_50 (fun H locs hP hS => ?_)
      refine lv_goto (tgt := 86) hx hb d_GF_stepClock_53 (by decide) ?_
      exact fl_vret hx hb hr hlocks hP hS (by rw [hG]) d_GF_stepClock_86
    ·
      have hG := hG.trans (if_neg h_2)
      exact fl_vret hx hb hr hlocks hP hS (by rw [hG]) d_GF_stepClock_32
  ·
    have hG := hG.trans (if_pos h_1)
    refine lv_aload_n hx hb d_GF_stepClock_7 rfl (lv_at hl 0 rfl) ?_
    refine gt_GF (k := 5) (v := .int (f 5)) hx hb hts hown hK hP  (hts _ (List.mem_cons_of_mem _ tw_88)) (by decide) rfl rfl d_GF_stepClock_8 ?_
    refine lv_if_ne (tgt := 15) hx hb d_GF_stepClock_11 (by decide) (fun h_4 => ?_) (fun h_4 => ?_)
    ·
      have hG := hG.trans (if_neg h_4)
      refine lv_aload_n hx hb d_GF_stepClock_15 rfl (lv_at hl 0 rfl) ?_
      refine lv_dup hx hb d_GF_stepClock_16 rfl ?_
      refine gt_GF (k := 7) (v := .int (f 7)) hx hb hts hown hK hP  (hts _ (List.mem_cons_of_mem _ tw_90)) (by decide) rfl rfl d_GF_stepClock_17 ?_
      refine lv_iconst (v := 1) hx hb d_GF_stepClock_20 (by decide) ?_
      refine lv_isub hx hb d_GF_stepClock_21 ?_
      refine pt_GF (k := 7) hx hb hts hown hK hi hP hS  (hts _ (List.mem_cons_of_mem _ tw_90)) (by decide) rfl rfl rfl rfl (Nat.le_of_ble_eq_true rfl) rfl d_GF_stepClock_22 (fun H locs hP hS => ?_)
      refine lv_aload_n hx hb d_GF_stepClock_25 rfl (lv_at hl 0 rfl) ?_
      refine gt_GF (k := 7) (v := .int ((f 7) - 1)) hx hb hts hown hK hP  (hts _ (List.mem_cons_of_mem _ tw_90)) (by decide) rfl rfl d_GF_stepClock_26 ?_
      refine lv_if_le (tgt := 33) hx hb d_GF_stepClock_29 (by decide) (fun h_5 => ?_) (fun h_5 => ?_)
      ·
        have hG := hG.trans (if_pos h_5)
        refine lv_aload_n hx hb d_GF_stepClock_33 rfl (lv_at hl 0 rfl) ?_
        refine lv_aload_n hx hb d_GF_stepClock_34 rfl (lv_at hl 0 rfl) ?_
        refine gt_GF (k := 0) (v := .int (f 0)) hx hb hts hown hK hP  (hts _ (List.mem_cons_of_mem _ tw_83)) (by decide) rfl rfl d_GF_stepClock_35 ?_
        refine pt_GF (k := 7) hx hb hts hown hK hi hP hS  (hts _ (List.mem_cons_of_mem _ tw_90)) (by decide) rfl rfl rfl rfl (Nat.le_of_ble_eq_true rfl) rfl d_GF_stepClock_38 (fun H locs hP hS => ?_)
        refine lv_aload_n hx hb d_GF_stepClock_41 rfl (lv_at hl 0 rfl) ?_
        refine gt_GF (k := 3) (v := .int (f 3)) hx hb hts hown hK hP  (hts _ (List.mem_cons_of_mem _ tw_86)) (by decide) rfl rfl d_GF_stepClock_42 ?_
        refine lv_if_eq (tgt := 56) hx hb d_GF_stepClock_45 (by decide) (fun _ => ?_) (fun h_6 => absurd (h_1) h_6)
        refine lv_aload_n hx hb d_GF_stepClock_56 rfl (lv_at hl 0 rfl) ?_
        refine gt_GF (k := 6) (v := .int (f 6)) hx hb hts hown hK hP  (hts _ (List.mem_cons_of_mem _ tw_89)) (by decide) rfl rfl d_GF_stepClock_57 ?_
        refine lv_iconst (v := 4) hx hb d_GF_stepClock_60 (by decide) ?_
        refine lv_icmp_ne (tgt := 72) hx hb d_GF_stepClock_61 (by decide) (fun h_7 => ?_) (fun h_7 => ?_)
        ·
          have hG := hG.trans (if_neg h_7)
          refine lv_aload_n hx hb d_GF_stepClock_72 rfl (lv_at hl 0 rfl) ?_
          refine lv_dup hx hb d_GF_stepClock_73 rfl ?_
          refine gt_GF (k := 6) (v := .int (f 6)) hx hb hts hown hK hP  (hts _ (List.mem_cons_of_mem _ tw_89)) (by decide) rfl rfl d_GF_stepClock_74 ?_
          refine lv_iconst (v := 1) hx hb d_GF_stepClock_77 (by decide) ?_
          refine lv_iadd hx hb d_GF_stepClock_78 ?_
          refine pt_GF (k := 6) hx hb hts hown hK hi hP hS  (hts _ (List.mem_cons_of_mem _ tw_89)) (by decide) rfl rfl rfl rfl (Nat.le_of_ble_eq_true rfl) rfl d_GF_stepClock_79 (fun H locs hP hS => ?_)
          refine lv_aload_n hx hb d_GF_stepClock_82 rfl (lv_at hl 0 rfl) ?_
          refine fl_callv (va_runV (As := []) (rest := []) ⟨hx, hb, hml, hown, hts⟩ (c_GF_markAll l hi M (upd (upd (upd f 7 ((f 7) - 1)) 7 (f 0)) 6 ((f 6) + 1)) z g (hu)) (kv_GF_markAll hts (hts _ (List.mem_cons_of_mem _ tw_596)) ⟨Nat.le_of_ble_eq_true rfl, Nat.le_of_ble_eq_true rfl⟩) (fl_preV hK hSt hN hS hP (by decide) (kc_GF) rfl) rfl rfl hl.1 rfl (lv_room (Nat.le_of_ble_eq_true rfl)) d_GF_stepClock_83 ⟨Nat.zero_le _, Nat.zero_le _⟩) hS (fun H locs hP hS => ?_)
          exact fl_vret hx hb hr hlocks hP hS (by rw [hG]) d_GF_stepClock_86
        ·
          have hG := hG.trans (if_pos h_7)
          refine lv_aload_n hx hb d_GF_stepClock_64 rfl (lv_at hl 0 rfl) ?_
          refine lv_iconst (v := 2) hx hb d_GF_stepClock_65 (by decide) ?_
          refine fl_callv (va_runV (As := [.int 2]) (rest := []) ⟨hx, hb, hml, hown, hts⟩ (c_GF_alert l hi M (upd (upd f 7 ((f 7) - 1)) 7 (f 0)) z g 2) (kv_GF_alert hts (hts _ (List.mem_cons_of_mem _ tw_584)) ⟨Nat.le_of_ble_eq_true rfl, Nat.le_of_ble_eq_true rfl⟩) (fl_preV hK hSt hN hS hP (by decide) (kc_GF) rfl) rfl rfl hl.1 rfl (lv_room (Nat.le_of_ble_eq_true rfl)) d_GF_stepClock_66 ⟨Nat.zero_le _, Nat.zero_le _⟩) hS (fun H locs hP hS => ?_)
          refine lv_goto (tgt := 86) hx hb d_GF_stepClock_69 (by decide) ?_
          exact fl_vret hx hb hr hlocks hP hS (by rw [hG]) d_GF_stepClock_86
      ·
        have hG := hG.trans (if_neg h_5)
        exact fl_vret hx hb hr hlocks hP hS (by rw [hG]) d_GF_stepClock_32
    ·
      have hG := hG.trans (if_pos h_4)
      exact fl_vret hx hb hr hlocks hP hS (by rw [hG]) d_GF_stepClock_14
theorem hd_GF_stepClock : y_GF_stepClock.cls ≠ "java/lang/invoke/MethodHandle" ∧ y_GF_stepClock.cls ≠ "java/lang/invoke/VarHandle" ∧ (parseMethodDescriptor y_GF_stepClock.desc).map (fun d => d.parameters.length) = some 0 := by decide +kernel
theorem kv_GF_stepClock {R : Room} {s : State} {args : Array Value} {c0 : Cond} {own : String} {index : Nat} (hts : ∀ w ∈ c0 :: gw, w.before args s = true) (hl : (Cond.methodLink own index y_GF_stepClock).before args s = true) (hR : 1 + 1 ≤ R.frames ∧ 8 + (1 + 11) + 21 ≤ R.locals) : CallW R s args own "FarLink$GroundFrames" index y_GF_stepClock b_GF_stepClock 1 none w_GF_stepClock ({ frames := 1, cells := 0, slots := 0, locals := 21 } : Room) 0 0 0 := ⟨callB_of 0 hts (gw_in tw_627) rfl rfl rfl (hts _ (List.mem_cons_of_mem _ tw_5)) hl hd_GF_stepClock hR, hts _ (List.mem_cons_of_mem _ tw_625), hts _ (List.mem_cons_of_mem _ tw_626)⟩
def g_GF_sendMarked_L5 (f : Nat → Int32) (z : Nat → Int32) (g : Nat → Int64) : Nat → (Int64 × (Nat → Int32) × (Nat → Int32) × (Nat → Int64))
  | 0 => ((-1), f, z, g)
  | k_5 + 1 => if (z ((((f 4) - (nI (k_5 + 1))) &&& 15).toNatClampNeg)) = 0 then (g_GF_sendMarked_L5 f z g k_5 ) else ((g ((((f 4) - (nI (k_5 + 1))) &&& 15).toNatClampNeg), (upd f 7 (f 0)), (upd z ((((f 4) - (nI (k_5 + 1))) &&& 15).toNatClampNeg) 0), g))
def g_GF_sendMarked (f : Nat → Int32) (z : Nat → Int32) (g : Nat → Int64) : Int64 × (Nat → Int32) × (Nat → Int32) × (Nat → Int64) :=
  g_GF_sendMarked_L5 f z g ((f 5).toNatClampNeg)
set_option maxHeartbeats 4000000 in
set_option maxRecDepth 100000 in
theorem c_GF_sendMarked (l : Launch) {D : va_G} {ad : Nat → Nat} {cA : Nat → ClassId} {st : Nat → Nat} (hi : fl_inj ad 88) (M : fl_M) (f : Nat → Int32) (z : Nat → Int32) (g : Nat → Int64) (hu : nn (f 5)) : Met l y_GF_sendMarked w_GF_sendMarked ({ frames := 0, cells := 0, slots := 0, locals := 0 } : Room) (va_Pc [.ref (ad 11)] (fl_B D cls (xt cA) (xSL st) xFN xMN ad (xc ad cA) 88 (pGF M f z g))) (va_Ql (fun r M' => r = (g_GF_sendMarked f z g).1 ∧ M' = (pGF M ((g_GF_sendMarked f z g).2.1) ((g_GF_sendMarked f z g).2.2.1) ((g_GF_sendMarked f z g).2.2.2))) (fl_E D cls ad (xc ad cA) 88) (fl_A ad 88)) 0 0 (fl_A ad 88) := by
  refine Met.ofW (cc := b_GF_sendMarked) (maxL := 3) (ret := (some .long)) (by decide) rfl ?_
  intro p e s m args below meth c s₁ B hml hv
  obtain ⟨rfl, hP, hK, hSt, hN⟩ := hv
  have hx := B.exec
  have hb := B.bytes
  have hr := B.returns
  have hts := atoms_spec (ws := w_GF_sendMarked) B.pre
  have hown : s.vm.findClass "FarLink$GroundFrames" = some m.cls := findClass_of_methodNamed B.named
  have hlocks := B.notSynchronized
  have hS : va_S (fl_A ad 88) s.heap s.heap [] := va_S.rf
  have hl := lv_entry ([.ref (ad 11)]) (n := 3) (Nat.le_of_ble_eq_true rfl)
  rw [lg_entry_eq]
  generalize (lg_sl ([.ref (ad 11)]) ++ List.replicate (3 - (lg_sl ([.ref (ad 11)])).length) Slot.unset).toArray = ls at hl ⊢
  have hl : lv_has ls 3 [(0, .ref (ad 11))] := hl
  have hB := tn_lt (f 5)
  have hG := g_GF_sendMarked.eq_1 f z g
  refine lv_aload_n hx hb d_GF_sendMarked_0 rfl (lv_at hl 0 rfl) ?_
  refine gt_GF (k := 5) (v := .int (f 5)) hx hb hts hown hK hP  (hts _ (List.mem_cons_of_mem _ tw_88)) (by decide) rfl rfl d_GF_sendMarked_1 ?_
  refine lv_istore_n (lv' := [(1, .int (f 5)), (0, .ref (ad 11))]) hx hb d_GF_sendMarked_4 rfl hl (by decide) rfl (fun ls hl => ?_)
  have lp_5 : ∀ (k_5 : Nat)  (ls : Array Slot) (H : Heap) (locs : List Loc), k_5 ≤ (f 5).toNatClampNeg → lv_has ls 3 [(0, .ref (ad 11)), (1, .int (nI k_5))] → va_P D cls (fl_w ad (xc ad cA) 88 (pGF M f z g)) H → va_S (fl_A ad 88) s.heap H locs → g_GF_sendMarked f z g = g_GF_sendMarked_L5 f z g k_5  → W p l e (headSpec w_GF_sendMarked ({ frames := 0, cells := 0, slots := 0, locals := 0 } : Room)).room s m ([.ref (ad 11)] : List Value).toArray below meth c H locs 0 0 (MQ below (va_Ql (fun r M' => r = (g_GF_sendMarked f z g).1 ∧ M' = (pGF M ((g_GF_sendMarked f z g).2.1) ((g_GF_sendMarked f z g).2.2.1) ((g_GF_sendMarked f z g).2.2.2))) (fl_E D cls ad (xc ad cA) 88) (fl_A ad 88)) ([.ref (ad 11)] : List Value).toArray s 0 0 (fl_A ad 88)) (F0 m 5 ls []) := by
    intro k_5
    induction k_5 with
    | zero =>
      intro  ls H locs hbd hl hP hS hG
      have hG := hG.trans (g_GF_sendMarked_L5.eq_1 ..)
      refine lv_iload_n hx hb d_GF_sendMarked_5 rfl (lv_at hl 1 rfl) ?_
      refine lv_if_le (tgt := 56) hx hb d_GF_sendMarked_6 (by decide) (fun _ => ?_) (fun h_1 => absurd (by decide) h_1)
      refine lv_ldc2 (v := -1) hx hb hown (hts _ (List.mem_cons_of_mem _ tw_654)) d_GF_sendMarked_56 ?_
      exact fl_lret hx hb hr hlocks hP hS (congrArg Prod.fst hG).symm (by rw [hG]) d_GF_sendMarked_59
    | succ k_5 ih_5 =>
      intro  ls H locs hbd hl hP hS hG
      have hG := hG.trans (g_GF_sendMarked_L5.eq_2 ..)
      refine lv_iload_n hx hb d_GF_sendMarked_5 rfl (lv_at hl 1 rfl) ?_
      refine lv_if_le (tgt := 56) hx hb d_GF_sendMarked_6 (by decide) (fun h_2 => absurd h_2 (nI_nle (by omega) (by omega))) (fun _ => ?_)
      refine lv_aload_n hx hb d_GF_sendMarked_9 rfl (lv_at hl 0 rfl) ?_
      refine gt_GF (k := 4) (v := .int (f 4)) hx hb hts hown hK hP  (hts _ (List.mem_cons_of_mem _ tw_87)) (by decide) rfl rfl d_GF_sendMarked_10 ?_
      refine lv_iload_n hx hb d_GF_sendMarked_13 rfl (lv_at hl 1 rfl) ?_
      refine lv_isub hx hb d_GF_sendMarked_14 ?_
      refine lv_bipush (v := 15) hx hb d_GF_sendMarked_15 (by decide) ?_
      refine lv_iand hx hb d_GF_sendMarked_17 ?_
      refine lv_istore_n (lv' := [(2, .int (((f 4) - (nI (k_5 + 1))) &&& 15)), (0, .ref (ad 11)), (1, .int (nI (k_5 + 1)))]) hx hb d_GF_sendMarked_18 rfl hl (by decide) rfl (fun ls hl => ?_)
      refine lv_aload_n hx hb d_GF_sendMarked_19 rfl (lv_at hl 1 rfl) ?_
      refine gt_GF (k := 2) (v := .ref (ad 13)) hx hb hts hown hK hP  (hts _ (List.mem_cons_of_mem _ tw_85)) (by decide) rfl rfl d_GF_sendMarked_20 ?_
      refine lv_iload_n hx hb d_GF_sendMarked_23 rfl (lv_at hl 0 rfl) ?_
      refine al_GFz hx hb hK hP  (fl_in15 _) d_GF_sendMarked_24 ?_
      refine lv_if_eq (tgt := 50) hx hb d_GF_sendMarked_25 (by decide) (fun h_3 => ?_) (fun h_3 => ?_)
      ·
        have hG := hG.trans (if_pos h_3)
        refine lv_iinc (k := 2) (v := nI k_5) (lv' := [(1, .int (nI k_5)), (2, .int (((f 4) - (nI (k_5 + 1))) &&& 15)), (0, .ref (ad 11))]) hx hb d_GF_sendMarked_50 hl rfl (fl_dec _) (by decide) rfl (fun ls hl => ?_)
        refine lv_goto (tgt := 5) hx hb d_GF_sendMarked_53 (by decide) ?_
        have hl := lv_sub (l' := [(0, .ref (ad 11)), (1, .int (nI k_5))]) hl [2, 0] rfl
        exact ih_5  ls _ _ (by omega) hl hP hS hG
      ·
        have hG := hG.trans (if_neg h_3)
        refine lv_aload_n hx hb d_GF_sendMarked_28 rfl (lv_at hl 1 rfl) ?_
        refine gt_GF (k := 2) (v := .ref (ad 13)) hx hb hts hown hK hP  (hts _ (List.mem_cons_of_mem _ tw_85)) (by decide) rfl rfl d_GF_sendMarked_29 ?_
        refine lv_iload_n hx hb d_GF_sendMarked_32 rfl (lv_at hl 0 rfl) ?_
        refine lv_iconst (v := 0) hx hb d_GF_sendMarked_33 (by decide) ?_
        refine as_GFz hx hb hK hi hP hS  (rfl) (fl_in15 _) d_GF_sendMarked_34 (fun H locs hP hS => ?_)
        refine lv_aload_n hx hb d_GF_sendMarked_35 rfl (lv_at hl 1 rfl) ?_
        refine lv_aload_n hx hb d_GF_sendMarked_36 rfl (lv_at hl 1 rfl) ?_
        refine gt_GF (k := 0) (v := .int (f 0)) hx hb hts hown hK hP  (hts _ (List.mem_cons_of_mem _ tw_83)) (by decide) rfl rfl d_GF_sendMarked_37 ?_
        refine pt_GF (k := 7) hx hb hts hown hK hi hP hS  (hts _ (List.mem_cons_of_mem _ tw_90)) (by decide) rfl rfl rfl rfl (Nat.le_of_ble_eq_true rfl) rfl d_GF_sendMarked_40 (fun H locs hP hS => ?_)
        refine lv_aload_n hx hb d_GF_sendMarked_43 rfl (lv_at hl 1 rfl) ?_
        refine gt_GF (k := 1) (v := .ref (ad 12)) hx hb hts hown hK hP  (hts _ (List.mem_cons_of_mem _ tw_84)) (by decide) rfl rfl d_GF_sendMarked_44 ?_
        refine lv_iload_n hx hb d_GF_sendMarked_47 rfl (lv_at hl 0 rfl) ?_
        refine al_GFg hx hb hK hP  (fl_in15 _) d_GF_sendMarked_48 ?_
        exact fl_lret hx hb hr hlocks hP hS (congrArg Prod.fst hG).symm (by rw [hG]) d_GF_sendMarked_49
  rw [show f 5 = nI (f 5).toNatClampNeg from hu] at hl
  have hl := lv_sub (l' := [(0, .ref (ad 11)), (1, .int (nI ((f 5).toNatClampNeg)))]) hl [1, 0] rfl
  exact lp_5 ((f 5).toNatClampNeg) ls _ _ (by omega) hl hP hS hG
theorem hd_GF_sendMarked : y_GF_sendMarked.cls ≠ "java/lang/invoke/MethodHandle" ∧ y_GF_sendMarked.cls ≠ "java/lang/invoke/VarHandle" ∧ (parseMethodDescriptor y_GF_sendMarked.desc).map (fun d => d.parameters.length) = some 0 := by decide +kernel
theorem kv_GF_sendMarked {R : Room} {s : State} {args : Array Value} {c0 : Cond} {own : String} {index : Nat} (hts : ∀ w ∈ c0 :: gw, w.before args s = true) (hl : (Cond.methodLink own index y_GF_sendMarked).before args s = true) (hR : 0 + 1 ≤ R.frames ∧ 8 + (3 + 11) + 0 ≤ R.locals) : CallW R s args own "FarLink$GroundFrames" index y_GF_sendMarked b_GF_sendMarked 3 (some .long) w_GF_sendMarked ({ frames := 0, cells := 0, slots := 0, locals := 0 } : Room) 0 0 0 := ⟨callB_of 0 hts (gw_in tw_653) rfl rfl rfl (hts _ (List.mem_cons_of_mem _ tw_5)) hl hd_GF_sendMarked hR, hts _ (List.mem_cons_of_mem _ tw_651), hts _ (List.mem_cons_of_mem _ tw_652)⟩
def g_GF_sendInOrder (f : Nat → Int32) (z : Nat → Int32) (g : Nat → Int64) (x1 : Int64) : Int64 × (Nat → Int32) × (Nat → Int32) × (Nat → Int64) :=
  if ((f 5) + 1) = 1 then (((vp_updL g ((f 4).toNatClampNeg) (x1 ||| (j_lshl ((f 4).toInt64) 48))) ((f 4).toNatClampNeg), (upd (upd (upd (upd f 4 (((f 4) + 1) &&& 15)) 5 ((f 5) + 1)) 7 (f 0)) 6 1), (upd z ((f 4).toNatClampNeg) 0), (vp_updL g ((f 4).toNatClampNeg) (x1 ||| (j_lshl ((f 4).toInt64) 48))))) else (((vp_updL g ((f 4).toNatClampNeg) (x1 ||| (j_lshl ((f 4).toInt64) 48))) ((f 4).toNatClampNeg), (upd (upd (upd f 4 (((f 4) + 1) &&& 15)) 5 ((f 5) + 1)) 7 (f 0)), (upd z ((f 4).toNatClampNeg) 0), (vp_updL g ((f 4).toNatClampNeg) (x1 ||| (j_lshl ((f 4).toInt64) 48)))))
set_option maxHeartbeats 4000000 in
set_option maxRecDepth 100000 in
theorem c_GF_sendInOrder (l : Launch) {D : va_G} {ad : Nat → Nat} {cA : Nat → ClassId} {st : Nat → Nat} (hi : fl_inj ad 88) (M : fl_M) (f : Nat → Int32) (z : Nat → Int32) (g : Nat → Int64) (x1 : Int64) (hn : vp_in (f 4) 16) : Met l y_GF_sendInOrder w_GF_sendInOrder ({ frames := 0, cells := 0, slots := 0, locals := 0 } : Room) (va_Pc [.ref (ad 11), .long x1] (fl_B D cls (xt cA) (xSL st) xFN xMN ad (xc ad cA) 88 (pGF M f z g))) (va_Ql (fun r M' => r = (g_GF_sendInOrder f z g x1).1 ∧ M' = (pGF M ((g_GF_sendInOrder f z g x1).2.1) ((g_GF_sendInOrder f z g x1).2.2.1) ((g_GF_sendInOrder f z g x1).2.2.2))) (fl_E D cls ad (xc ad cA) 88) (fl_A ad 88)) 0 0 (fl_A ad 88) := by
  refine Met.ofW (cc := b_GF_sendInOrder) (maxL := 4) (ret := (some .long)) (by decide) rfl ?_
  intro p e s m args below meth c s₁ B hml hv
  obtain ⟨rfl, hP, hK, hSt, hN⟩ := hv
  have hx := B.exec
  have hb := B.bytes
  have hr := B.returns
  have hts := atoms_spec (ws := w_GF_sendInOrder) B.pre
  have hown : s.vm.findClass "FarLink$GroundFrames" = some m.cls := findClass_of_methodNamed B.named
  have hlocks := B.notSynchronized
  have hS : va_S (fl_A ad 88) s.heap s.heap [] := va_S.rf
  have hl := lv_entry ([.ref (ad 11), .long x1]) (n := 4) (Nat.le_of_ble_eq_true rfl)
  rw [lg_entry_eq]
  generalize (lg_sl ([.ref (ad 11), .long x1]) ++ List.replicate (4 - (lg_sl ([.ref (ad 11), .long x1])).length) Slot.unset).toArray = ls at hl ⊢
  have hl : lv_has ls 4 [(0, .ref (ad 11)), (1, .long x1)] := hl
  have hG := g_GF_sendInOrder.eq_1 f z g x1
  refine lv_aload_n hx hb d_GF_sendInOrder_0 rfl (lv_at hl 0 rfl) ?_
  refine gt_GF (k := 4) (v := .int (f 4)) hx hb hts hown hK hP  (hts _ (List.mem_cons_of_mem _ tw_87)) (by decide) rfl rfl d_GF_sendInOrder_1 ?_
  refine lv_istore_n (lv' := [(3, .int (f 4)), (0, .ref (ad 11)), (1, .long x1)]) hx hb d_GF_sendInOrder_4 rfl hl (by decide) rfl (fun ls hl => ?_)
  refine lv_aload_n hx hb d_GF_sendInOrder_5 rfl (lv_at hl 1 rfl) ?_
  refine gt_GF (k := 1) (v := .ref (ad 12)) hx hb hts hown hK hP  (hts _ (List.mem_cons_of_mem _ tw_84)) (by decide) rfl rfl d_GF_sendInOrder_6 ?_
  refine lv_iload_n hx hb d_GF_sendInOrder_9 rfl (lv_at hl 0 rfl) ?_
  refine lv_lload_n hx hb d_GF_sendInOrder_10 rfl (lv_at hl 2 rfl) ?_
  refine lv_iload_n hx hb d_GF_sendInOrder_11 rfl (lv_at hl 0 rfl) ?_
  refine lv_i2l (v := (f 4).toInt64) hx hb d_GF_sendInOrder_12 rfl ?_
  refine lv_bipush (v := 48) hx hb d_GF_sendInOrder_13 (by decide) ?_
  refine lv_lshl (v := j_lshl ((f 4).toInt64) 48) hx hb d_GF_sendInOrder_15 rfl ?_
  refine lv_lor hx hb d_GF_sendInOrder_16 ?_
  refine as_GFg hx hb hK hi hP hS  (by first | assumption | exact below_in16 (by assumption)) d_GF_sendInOrder_17 (fun H locs hP hS => ?_)
  refine lv_aload_n hx hb d_GF_sendInOrder_18 rfl (lv_at hl 1 rfl) ?_
  refine gt_GF (k := 2) (v := .ref (ad 13)) hx hb hts hown hK hP  (hts _ (List.mem_cons_of_mem _ tw_85)) (by decide) rfl rfl d_GF_sendInOrder_19 ?_
  refine lv_iload_n hx hb d_GF_sendInOrder_22 rfl (lv_at hl 0 rfl) ?_
  refine lv_iconst (v := 0) hx hb d_GF_sendInOrder_23 (by decide) ?_
  refine as_GFz hx hb hK hi hP hS  (rfl) (by first | assumption | exact below_in16 (by assumption)) d_GF_sendInOrder_24 (fun H locs hP hS => ?_)
  refine lv_aload_n hx hb d_GF_sendInOrder_25 rfl (lv_at hl 1 rfl) ?_
  refine lv_aload_n hx hb d_GF_sendInOrder_26 rfl (lv_at hl 1 rfl) ?_
  refine gt_GF (k := 4) (v := .int (f 4)) hx hb hts hown hK hP  (hts _ (List.mem_cons_of_mem _ tw_87)) (by decide) rfl rfl d_GF_sendInOrder_27 ?_
  refine lv_iconst (v := 1) hx hb d_GF_sendInOrder_30 (by decide) ?_
  refine lv_iadd hx hb d_GF_sendInOrder_31 ?_
  refine lv_bipush (v := 15) hx hb d_GF_sendInOrder_32 (by decide) ?_
  refine lv_iand hx hb d_GF_sendInOrder_34 ?_
  refine pt_GF (k := 4) hx hb hts hown hK hi hP hS  (hts _ (List.mem_cons_of_mem _ tw_87)) (by decide) rfl rfl rfl rfl (Nat.le_of_ble_eq_true rfl) rfl d_GF_sendInOrder_35 (fun H locs hP hS => ?_)
  refine lv_aload_n hx hb d_GF_sendInOrder_38 rfl (lv_at hl 1 rfl) ?_
  refine lv_dup hx hb d_GF_sendInOrder_39 rfl ?_
  refine gt_GF (k := 5) (v := .int (f 5)) hx hb hts hown hK hP  (hts _ (List.mem_cons_of_mem _ tw_88)) (by decide) rfl rfl d_GF_sendInOrder_40 ?_
  refine lv_iconst (v := 1) hx hb d_GF_sendInOrder_43 (by decide) ?_
  refine lv_iadd hx hb d_GF_sendInOrder_44 ?_
  refine pt_GF (k := 5) hx hb hts hown hK hi hP hS  (hts _ (List.mem_cons_of_mem _ tw_88)) (by decide) rfl rfl rfl rfl (Nat.le_of_ble_eq_true rfl) rfl d_GF_sendInOrder_45 (fun H locs hP hS => ?_)
  refine lv_aload_n hx hb d_GF_sendInOrder_48 rfl (lv_at hl 1 rfl) ?_
  refine lv_aload_n hx hb d_GF_sendInOrder_49 rfl (lv_at hl 1 rfl) ?_
  refine gt_GF (k := 0) (v := .int (f 0)) hx hb hts hown hK hP  (hts _ (List.mem_cons_of_mem _ tw_83)) (by decide) rfl rfl d_GF_sendInOrder_50 ?_
  refine pt_GF (k := 7) hx hb hts hown hK hi hP hS  (hts _ (List.mem_cons_of_mem _ tw_90)) (by decide) rfl rfl rfl rfl (Nat.le_of_ble_eq_true rfl) rfl d_GF_sendInOrder_53 (fun H locs hP hS => ?_)
  refine lv_aload_n hx hb d_GF_sendInOrder_56 rfl (lv_at hl 1 rfl) ?_
  refine gt_GF (k := 5) (v := .int ((f 5) + 1)) hx hb hts hown hK hP  (hts _ (List.mem_cons_of_mem _ tw_88)) (by decide) rfl rfl d_GF_sendInOrder_57 ?_
  refine lv_iconst (v := 1) hx hb d_GF_sendInOrder_60 (by decide) ?_
  refine lv_icmp_ne (tgt := 69) hx hb d_GF_sendInOrder_61 (by decide) (fun h_1 => ?_) (fun h_1 => ?_)
  ·
    have hG := hG.trans (if_neg h_1)
    refine lv_aload_n hx hb d_GF_sendInOrder_69 rfl (lv_at hl 1 rfl) ?_
    refine gt_GF (k := 1) (v := .ref (ad 12)) hx hb hts hown hK hP  (hts _ (List.mem_cons_of_mem _ tw_84)) (by decide) rfl rfl d_GF_sendInOrder_70 ?_
    refine lv_iload_n hx hb d_GF_sendInOrder_73 rfl (lv_at hl 0 rfl) ?_
    refine al_GFg hx hb hK hP  (by first | assumption | exact below_in16 (by assumption)) d_GF_sendInOrder_74 ?_
    exact fl_lret hx hb hr hlocks hP hS (congrArg Prod.fst hG).symm (by rw [hG]) d_GF_sendInOrder_75
  ·
    have hG := hG.trans (if_pos h_1)
    refine lv_aload_n hx hb d_GF_sendInOrder_64 rfl (lv_at hl 1 rfl) ?_
    refine lv_iconst (v := 1) hx hb d_GF_sendInOrder_65 (by decide) ?_
    refine pt_GF (k := 6) hx hb hts hown hK hi hP hS  (hts _ (List.mem_cons_of_mem _ tw_89)) (by decide) rfl rfl rfl rfl (Nat.le_of_ble_eq_true rfl) rfl d_GF_sendInOrder_66 (fun H locs hP hS => ?_)
    refine lv_aload_n hx hb d_GF_sendInOrder_69 rfl (lv_at hl 1 rfl) ?_
    refine gt_GF (k := 1) (v := .ref (ad 12)) hx hb hts hown hK hP  (hts _ (List.mem_cons_of_mem _ tw_84)) (by decide) rfl rfl d_GF_sendInOrder_70 ?_
    refine lv_iload_n hx hb d_GF_sendInOrder_73 rfl (lv_at hl 0 rfl) ?_
    refine al_GFg hx hb hK hP  (by first | assumption | exact below_in16 (by assumption)) d_GF_sendInOrder_74 ?_
    exact fl_lret hx hb hr hlocks hP hS (congrArg Prod.fst hG).symm (by rw [hG]) d_GF_sendInOrder_75
theorem hd_GF_sendInOrder : y_GF_sendInOrder.cls ≠ "java/lang/invoke/MethodHandle" ∧ y_GF_sendInOrder.cls ≠ "java/lang/invoke/VarHandle" ∧ (parseMethodDescriptor y_GF_sendInOrder.desc).map (fun d => d.parameters.length) = some 1 := by decide +kernel
theorem kv_GF_sendInOrder {R : Room} {s : State} {args : Array Value} {c0 : Cond} {own : String} {index : Nat} (hts : ∀ w ∈ c0 :: gw, w.before args s = true) (hl : (Cond.methodLink own index y_GF_sendInOrder).before args s = true) (hR : 0 + 1 ≤ R.frames ∧ 8 + (4 + 11) + 0 ≤ R.locals) : CallW R s args own "FarLink$GroundFrames" index y_GF_sendInOrder b_GF_sendInOrder 4 (some .long) w_GF_sendInOrder ({ frames := 0, cells := 0, slots := 0, locals := 0 } : Room) 0 0 1 := ⟨callB_of 1 hts (gw_in tw_684) rfl rfl rfl (hts _ (List.mem_cons_of_mem _ tw_5)) hl hd_GF_sendInOrder hR, hts _ (List.mem_cons_of_mem _ tw_682), hts _ (List.mem_cons_of_mem _ tw_683)⟩
def g_GF_countMarked_L7 (f : Nat → Int32) (z : Nat → Int32) (g : Nat → Int64) : Nat → Int32 → Int32
  | 0, cm => (cm)
  | k_7 + 1, cm => if (z ((((f 4) - (nI (k_7 + 1))) &&& 15).toNatClampNeg)) = 0 then (g_GF_countMarked_L7 f z g k_7 cm) else (g_GF_countMarked_L7 f z g k_7 (cm + Int32.ofInt 1))
def g_GF_countMarked (f : Nat → Int32) (z : Nat → Int32) (g : Nat → Int64) : Int32 :=
  (g_GF_countMarked_L7 f z g ((f 5).toNatClampNeg) 0)
set_option maxHeartbeats 4000000 in
set_option maxRecDepth 100000 in
theorem c_GF_countMarked (l : Launch) {D : va_G} {ad : Nat → Nat} {cA : Nat → ClassId} {st : Nat → Nat} (hi : fl_inj ad 88) (M : fl_M) (f : Nat → Int32) (z : Nat → Int32) (g : Nat → Int64) (hu : nn (f 5)) : Met l y_GF_countMarked w_GF_countMarked ({ frames := 0, cells := 0, slots := 0, locals := 0 } : Room) (va_Pc [.ref (ad 11)] (fl_B D cls (xt cA) (xSL st) xFN xMN ad (xc ad cA) 88 (pGF M f z g))) (va_Qi (fun r M' => r = (g_GF_countMarked f z g) ∧ M' = (pGF M f z g)) (fl_E D cls ad (xc ad cA) 88) (fl_A ad 88)) 0 0 (fl_A ad 88) := by
  refine Met.ofW (cc := b_GF_countMarked) (maxL := 3) (ret := (some .int)) (by decide) rfl ?_
  intro p e s m args below meth c s₁ B hml hv
  obtain ⟨rfl, hP, hK, hSt, hN⟩ := hv
  have hx := B.exec
  have hb := B.bytes
  have hr := B.returns
  have hts := atoms_spec (ws := w_GF_countMarked) B.pre
  have hown : s.vm.findClass "FarLink$GroundFrames" = some m.cls := findClass_of_methodNamed B.named
  have hlocks := B.notSynchronized
  have hS : va_S (fl_A ad 88) s.heap s.heap [] := va_S.rf
  have hl := lv_entry ([.ref (ad 11)]) (n := 3) (Nat.le_of_ble_eq_true rfl)
  rw [lg_entry_eq]
  generalize (lg_sl ([.ref (ad 11)]) ++ List.replicate (3 - (lg_sl ([.ref (ad 11)])).length) Slot.unset).toArray = ls at hl ⊢
  have hl : lv_has ls 3 [(0, .ref (ad 11))] := hl
  have hB := tn_lt (f 5)
  have hG := g_GF_countMarked.eq_1 f z g
  refine lv_iconst (v := 0) hx hb d_GF_countMarked_0 (by decide) ?_
  refine lv_istore_n (lv' := [(1, .int 0), (0, .ref (ad 11))]) hx hb d_GF_countMarked_1 rfl hl (by decide) rfl (fun ls hl => ?_)
  refine lv_aload_n hx hb d_GF_countMarked_2 rfl (lv_at hl 1 rfl) ?_
  refine gt_GF (k := 5) (v := .int (f 5)) hx hb hts hown hK hP  (hts _ (List.mem_cons_of_mem _ tw_88)) (by decide) rfl rfl d_GF_countMarked_3 ?_
  refine lv_istore_n (lv' := [(2, .int (f 5)), (1, .int 0), (0, .ref (ad 11))]) hx hb d_GF_countMarked_6 rfl hl (by decide) rfl (fun ls hl => ?_)
  have lp_7 : ∀ (k_7 : Nat) (cm : Int32) (ls : Array Slot) (H : Heap) (locs : List Loc), k_7 ≤ (f 5).toNatClampNeg → lv_has ls 3 [(0, .ref (ad 11)), (1, .int cm), (2, .int (nI k_7))] → va_P D cls (fl_w ad (xc ad cA) 88 (pGF M f z g)) H → va_S (fl_A ad 88) s.heap H locs → (∀ (v : Int32) (ls : Array Slot) (H : Heap) (locs : List Loc), v = g_GF_countMarked_L7 f z g k_7 cm → lv_has ls 3 [(0, .ref (ad 11)), (1, .int v)] → va_P D cls (fl_w ad (xc ad cA) 88 (pGF M f z g)) H → va_S (fl_A ad 88) s.heap H locs → W p l e (headSpec w_GF_countMarked ({ frames := 0, cells := 0, slots := 0, locals := 0 } : Room)).room s m ([.ref (ad 11)] : List Value).toArray below meth c H locs 0 0 (MQ below (va_Qi (fun r M' => r = (g_GF_countMarked f z g) ∧ M' = (pGF M f z g)) (fl_E D cls ad (xc ad cA) 88) (fl_A ad 88)) ([.ref (ad 11)] : List Value).toArray s 0 0 (fl_A ad 88)) (F0 m 37 ls [])) → W p l e (headSpec w_GF_countMarked ({ frames := 0, cells := 0, slots := 0, locals := 0 } : Room)).room s m ([.ref (ad 11)] : List Value).toArray below meth c H locs 0 0 (MQ below (va_Qi (fun r M' => r = (g_GF_countMarked f z g) ∧ M' = (pGF M f z g)) (fl_E D cls ad (xc ad cA) 88) (fl_A ad 88)) ([.ref (ad 11)] : List Value).toArray s 0 0 (fl_A ad 88)) (F0 m 7 ls []) := by
    intro k_7
    induction k_7 with
    | zero =>
      intro cm ls H locs hbd hl hP hS kk
      have hG : g_GF_countMarked_L7 f z g 0 cm = _ := g_GF_countMarked_L7.eq_1 ..
      refine lv_iload_n hx hb d_GF_countMarked_7 rfl (lv_at hl 2 rfl) ?_
      refine lv_if_le (tgt := 37) hx hb d_GF_countMarked_8 (by decide) (fun _ => ?_) (fun h_1 => absurd (by decide) h_1)
      have hl := lv_sub (l' := [(0, .ref (ad 11)), (1, .int cm)]) hl [0, 1] rfl
      exact kk (cm) ls _ _ hG.symm hl hP hS
    | succ k_7 ih_7 =>
      intro cm ls H locs hbd hl hP hS kk
      have hG : g_GF_countMarked_L7 f z g (k_7 + 1) cm = _ := g_GF_countMarked_L7.eq_2 ..
      refine lv_iload_n hx hb d_GF_countMarked_7 rfl (lv_at hl 2 rfl) ?_
      refine lv_if_le (tgt := 37) hx hb d_GF_countMarked_8 (by decide) (fun h_2 => absurd h_2 (nI_nle (by omega) (by omega))) (fun _ => ?_)
      refine lv_aload_n hx hb d_GF_countMarked_11 rfl (lv_at hl 0 rfl) ?_
      refine gt_GF (k := 2) (v := .ref (ad 13)) hx hb hts hown hK hP  (hts _ (List.mem_cons_of_mem _ tw_85)) (by decide) rfl rfl d_GF_countMarked_12 ?_
      refine lv_aload_n hx hb d_GF_countMarked_15 rfl (lv_at hl 0 rfl) ?_
      refine gt_GF (k := 4) (v := .int (f 4)) hx hb hts hown hK hP  (hts _ (List.mem_cons_of_mem _ tw_87)) (by decide) rfl rfl d_GF_countMarked_16 ?_
      refine lv_iload_n hx hb d_GF_countMarked_19 rfl (lv_at hl 2 rfl) ?_
      refine lv_isub hx hb d_GF_countMarked_20 ?_
      refine lv_bipush (v := 15) hx hb d_GF_countMarked_21 (by decide) ?_
      refine lv_iand hx hb d_GF_countMarked_23 ?_
      refine al_GFz hx hb hK hP  (fl_in15 _) d_GF_countMarked_24 ?_
      refine lv_if_eq (tgt := 31) hx hb d_GF_countMarked_25 (by decide) (fun h_3 => ?_) (fun h_3 => ?_)
      ·
        have hG := hG.trans (if_pos h_3)
        refine lv_iinc (k := 2) (v := nI k_7) (lv' := [(2, .int (nI k_7)), (0, .ref (ad 11)), (1, .int cm)]) hx hb d_GF_countMarked_31 hl rfl (fl_dec _) (by decide) rfl (fun ls hl => ?_)
        refine lv_goto (tgt := 7) hx hb d_GF_countMarked_34 (by decide) ?_
        have hl := lv_sub (l' := [(0, .ref (ad 11)), (1, .int cm), (2, .int (nI k_7))]) hl [1, 2, 0] rfl
        exact ih_7 cm ls _ _ (by omega) hl hP hS (fun v ls H locs hv => kk v ls H locs (hv.trans hG.symm))
      ·
        have hG := hG.trans (if_neg h_3)
        refine lv_iinc (k := 1) (v := cm + Int32.ofInt 1) (lv' := [(1, .int (cm + Int32.ofInt 1)), (0, .ref (ad 11)), (2, .int (nI (k_7 + 1)))]) hx hb d_GF_countMarked_28 hl rfl (rfl) (by decide) rfl (fun ls hl => ?_)
        refine lv_iinc (k := 2) (v := nI k_7) (lv' := [(2, .int (nI k_7)), (1, .int (cm + Int32.ofInt 1)), (0, .ref (ad 11))]) hx hb d_GF_countMarked_31 hl rfl (fl_dec _) (by decide) rfl (fun ls hl => ?_)
        refine lv_goto (tgt := 7) hx hb d_GF_countMarked_34 (by decide) ?_
        have hl := lv_sub (l' := [(0, .ref (ad 11)), (1, .int (cm + Int32.ofInt 1)), (2, .int (nI k_7))]) hl [2, 1, 0] rfl
        exact ih_7 (cm + Int32.ofInt 1) ls _ _ (by omega) hl hP hS (fun v ls H locs hv => kk v ls H locs (hv.trans hG.symm))
  rw [show f 5 = nI (f 5).toNatClampNeg from hu] at hl
  have hl := lv_sub (l' := [(0, .ref (ad 11)), (1, .int 0), (2, .int (nI ((f 5).toNatClampNeg)))]) hl [2, 1, 0] rfl
  refine lp_7 ((f 5).toNatClampNeg) 0 ls _ _ (by omega) hl hP hS (fun v ls H locs hv hl hP hS => ?_)
  subst hv
  refine lv_iload_n hx hb d_GF_countMarked_37 rfl (lv_at hl 1 rfl) ?_
  exact fl_iret hx hb hr hlocks hP hS hG.symm rfl d_GF_countMarked_38
theorem hd_GF_countMarked : y_GF_countMarked.cls ≠ "java/lang/invoke/MethodHandle" ∧ y_GF_countMarked.cls ≠ "java/lang/invoke/VarHandle" ∧ (parseMethodDescriptor y_GF_countMarked.desc).map (fun d => d.parameters.length) = some 0 := by decide +kernel
theorem kv_GF_countMarked {R : Room} {s : State} {args : Array Value} {c0 : Cond} {own : String} {index : Nat} (hts : ∀ w ∈ c0 :: gw, w.before args s = true) (hl : (Cond.methodLink own index y_GF_countMarked).before args s = true) (hR : 0 + 1 ≤ R.frames ∧ 8 + (3 + 11) + 0 ≤ R.locals) : CallW R s args own "FarLink$GroundFrames" index y_GF_countMarked b_GF_countMarked 3 (some .int) w_GF_countMarked ({ frames := 0, cells := 0, slots := 0, locals := 0 } : Room) 0 0 0 := ⟨callB_of 0 hts (gw_in tw_736) rfl rfl rfl (hts _ (List.mem_cons_of_mem _ tw_5)) hl hd_GF_countMarked hR, hts _ (List.mem_cons_of_mem _ tw_734), hts _ (List.mem_cons_of_mem _ tw_735)⟩
def g_GF_summary (f : Nat → Int32) (z : Nat → Int32) (g : Nat → Int64) : Int32 :=
  (((f 3) + (4 * (f 4))) + (64 * (f 5))) + (512 * (g_GF_countMarked f z g))
set_option maxHeartbeats 4000000 in
set_option maxRecDepth 100000 in
theorem c_GF_summary (l : Launch) {D : va_G} {ad : Nat → Nat} {cA : Nat → ClassId} {st : Nat → Nat} (hi : fl_inj ad 88) (M : fl_M) (f : Nat → Int32) (z : Nat → Int32) (g : Nat → Int64) (hu : nn (f 5)) : Met l y_GF_summary w_GF_summary ({ frames := 1, cells := 0, slots := 0, locals := 22 } : Room) (va_Pc [.ref (ad 11)] (fl_B D cls (xt cA) (xSL st) xFN xMN ad (xc ad cA) 88 (pGF M f z g))) (va_Qi (fun r M' => r = (g_GF_summary f z g) ∧ M' = (pGF M f z g)) (fl_E D cls ad (xc ad cA) 88) (fl_A ad 88)) 0 0 (fl_A ad 88) := by
  refine Met.ofW (cc := b_GF_summary) (maxL := 1) (ret := (some .int)) (by decide) rfl ?_
  intro p e s m args below meth c s₁ B hml hv
  obtain ⟨rfl, hP, hK, hSt, hN⟩ := hv
  have hx := B.exec
  have hb := B.bytes
  have hr := B.returns
  have hts := atoms_spec (ws := w_GF_summary) B.pre
  have hown : s.vm.findClass "FarLink$GroundFrames" = some m.cls := findClass_of_methodNamed B.named
  have hlocks := B.notSynchronized
  have hS : va_S (fl_A ad 88) s.heap s.heap [] := va_S.rf
  have hl := lv_entry ([.ref (ad 11)]) (n := 1) (Nat.le_of_ble_eq_true rfl)
  rw [lg_entry_eq]
  generalize (lg_sl ([.ref (ad 11)]) ++ List.replicate (1 - (lg_sl ([.ref (ad 11)])).length) Slot.unset).toArray = ls at hl ⊢
  have hl : lv_has ls 1 [(0, .ref (ad 11))] := hl
  have hG := g_GF_summary.eq_1 f z g
  refine lv_aload_n hx hb d_GF_summary_0 rfl (lv_at hl 0 rfl) ?_
  refine gt_GF (k := 3) (v := .int (f 3)) hx hb hts hown hK hP  (hts _ (List.mem_cons_of_mem _ tw_86)) (by decide) rfl rfl d_GF_summary_1 ?_
  refine lv_iconst (v := 4) hx hb d_GF_summary_4 (by decide) ?_
  refine lv_aload_n hx hb d_GF_summary_5 rfl (lv_at hl 0 rfl) ?_
  refine gt_GF (k := 4) (v := .int (f 4)) hx hb hts hown hK hP  (hts _ (List.mem_cons_of_mem _ tw_87)) (by decide) rfl rfl d_GF_summary_6 ?_
  refine lv_imul hx hb d_GF_summary_9 ?_
  refine lv_iadd hx hb d_GF_summary_10 ?_
  refine lv_bipush (v := 64) hx hb d_GF_summary_11 (by decide) ?_
  refine lv_aload_n hx hb d_GF_summary_13 rfl (lv_at hl 0 rfl) ?_
  refine gt_GF (k := 5) (v := .int (f 5)) hx hb hts hown hK hP  (hts _ (List.mem_cons_of_mem _ tw_88)) (by decide) rfl rfl d_GF_summary_14 ?_
  refine lv_imul hx hb d_GF_summary_17 ?_
  refine lv_iadd hx hb d_GF_summary_18 ?_
  refine lv_sipush (v := 512) hx hb d_GF_summary_19 (by decide) ?_
  refine lv_aload_n hx hb d_GF_summary_22 rfl (lv_at hl 0 rfl) ?_
  refine fl_calli (va_runV (As := []) (rest := [.int 512, .int (((f 3) + (4 * (f 4))) + (64 * (f 5)))]) ⟨hx, hb, hml, hown, hts⟩ (c_GF_countMarked l hi M f z g (hu)) (kv_GF_countMarked hts (hts _ (List.mem_cons_of_mem _ tw_733)) ⟨Nat.le_of_ble_eq_true rfl, Nat.le_of_ble_eq_true rfl⟩) (fl_preV hK hSt hN hS hP (by decide) (kc_GF) rfl) rfl rfl hl.1 rfl (lv_room (Nat.le_of_ble_eq_true rfl)) d_GF_summary_23 ⟨Nat.zero_le _, Nat.zero_le _⟩) hS (fun H locs hP hS => ?_)
  refine lv_imul hx hb d_GF_summary_26 ?_
  refine lv_iadd hx hb d_GF_summary_27 ?_
  exact fl_iret hx hb hr hlocks hP hS hG.symm rfl d_GF_summary_28
theorem hd_GF_summary : y_GF_summary.cls ≠ "java/lang/invoke/MethodHandle" ∧ y_GF_summary.cls ≠ "java/lang/invoke/VarHandle" ∧ (parseMethodDescriptor y_GF_summary.desc).map (fun d => d.parameters.length) = some 0 := by decide +kernel
theorem kv_GF_summary {R : Room} {s : State} {args : Array Value} {c0 : Cond} {own : String} {index : Nat} (hts : ∀ w ∈ c0 :: gw, w.before args s = true) (hl : (Cond.methodLink own index y_GF_summary).before args s = true) (hR : 1 + 1 ≤ R.frames ∧ 8 + (1 + 11) + 22 ≤ R.locals) : CallW R s args own "FarLink$GroundFrames" index y_GF_summary b_GF_summary 1 (some .int) w_GF_summary ({ frames := 1, cells := 0, slots := 0, locals := 22 } : Room) 0 0 0 := ⟨callB_of 0 hts (gw_in tw_732) rfl rfl rfl (hts _ (List.mem_cons_of_mem _ tw_5)) hl hd_GF_summary hR, hts _ (List.mem_cons_of_mem _ tw_730), hts _ (List.mem_cons_of_mem _ tw_731)⟩
