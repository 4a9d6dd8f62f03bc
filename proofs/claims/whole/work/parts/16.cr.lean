/-! contracts: 16.cr -/
def g_CR_takeData (f : Nat → Int32) (w : Nat → Int32) (x1 : Int32) (x2 : Int32) : Int32 × (Nat → Int32) × (Nat → Int32) :=
  if (g_FL_isBelow x1 16) = 0 then ((0, f, w)) else (if (g_CR_has f w (1 <<< (x1 &&& 31))) = 0 then ((1, (upd (upd f 4 ((f 4) ||| (1 <<< (x1 &&& 31)))) 11 1), (upd w x1.toNatClampNeg x2))) else ((0, f, w)))
set_option maxHeartbeats 4000000 in
set_option maxRecDepth 100000 in
theorem c_CR_takeData (l : Launch) {D : va_G} {ad : Nat → Nat} {cA : Nat → ClassId} {st : Nat → Nat} (hi : fl_inj ad 88) {q : Nat} (hq : is_CR q) (M : fl_M) (f : Nat → Int32) (w : Nat → Int32) (x1 : Int32) (x2 : Int32) : Met l y_CR_takeData w_CR_takeData ({ frames := 1, cells := 0, slots := 0, locals := 21 } : Room) (va_Pc [.ref (ad q), .int x1, .int x2] (fl_B D cls (xt cA) (xSL st) xFN xMN ad (xc ad cA) 88 (pCR M q f w))) (va_Qi (fun r M' => r = (g_CR_takeData f w x1 x2).1 ∧ M' = (pCR M q ((g_CR_takeData f w x1 x2).2.1) ((g_CR_takeData f w x1 x2).2.2))) (fl_E D cls ad (xc ad cA) 88) (fl_A ad 88)) 0 0 (fl_A ad 88) := by
  refine Met.ofW (cc := b_CR_takeData) (maxL := 3) (ret := (some .boolean)) (by decide) rfl ?_
  intro p e s m args below meth c s₁ B hml hv
  obtain ⟨rfl, hP, hK, hSt, hN⟩ := hv
  have hx := B.exec
  have hb := B.bytes
  have hr := B.returns
  have hts := atoms_spec (ws := w_CR_takeData) B.pre
  have hown : s.vm.findClass "FarLink$CraftRecord" = some m.cls := findClass_of_methodNamed B.named
  have hlocks := B.notSynchronized
  have hS : va_S (fl_A ad 88) s.heap s.heap [] := va_S.rf
  have hl := lv_entry ([.ref (ad q), .int x1, .int x2]) (n := 3) (Nat.le_of_ble_eq_true rfl)
  rw [lg_entry_eq]
  generalize (lg_sl ([.ref (ad q), .int x1, .int x2]) ++ List.replicate (3 - (lg_sl ([.ref (ad q), .int x1, .int x2])).length) Slot.unset).toArray = ls at hl ⊢
  have hl : lv_has ls 3 [(0, .ref (ad q)), (1, .int x1), (2, .int x2)] := hl
  have hG := g_CR_takeData.eq_1 f w x1 x2
  refine lv_iload_n hx hb d_CR_takeData_0 rfl (lv_at hl 1 rfl) ?_
  refine lv_bipush (v := 16) hx hb d_CR_takeData_1 (by decide) ?_
  refine fl_calli (va_runSN (As := [.int x1, .int 16]) (rest := []) ⟨hx, hb, hml, hown, hts⟩ (c_FL_isBelow l hi (pCR M q f w) x1 16) (kn_FL_isBelow hts (hN.m 6 rfl) ⟨Nat.le_of_ble_eq_true rfl, Nat.le_of_ble_eq_true rfl⟩) (fl_preS hK hSt hN hS hP) rfl rfl hl.1 rfl (lv_room (Nat.le_of_ble_eq_true rfl)) d_CR_takeData_3 ⟨Nat.zero_le _, Nat.zero_le _⟩) hS (fun H locs hP hS => ?_)
  refine lv_if_eq (tgt := 19) hx hb d_CR_takeData_6 (by decide) (fun h_1 => ?_) (fun h_1 => ?_)
  ·
    have hG := hG.trans (if_pos h_1)
    refine lv_iconst (v := 0) hx hb d_CR_takeData_19 (by decide) ?_
    exact fl_zret hx hb hr hlocks hP hS (rfl) (congrArg Prod.fst hG).symm (by rw [hG]) d_CR_takeData_20
  ·
    have hG := hG.trans (if_neg h_1)
    refine lv_aload_n hx hb d_CR_takeData_9 rfl (lv_at hl 0 rfl) ?_
    refine lv_iconst (v := 1) hx hb d_CR_takeData_10 (by decide) ?_
    refine lv_iload_n hx hb d_CR_takeData_11 rfl (lv_at hl 1 rfl) ?_
    refine lv_ishl hx hb d_CR_takeData_12 ?_
    refine fl_calli (va_runV (As := [.int (1 <<< (x1 &&& 31))]) (rest := []) ⟨hx, hb, hml, hown, hts⟩ (c_CR_has l hi hq M f w (1 <<< (x1 &&& 31))) (kv_CR_has hts (hts _ (List.mem_cons_of_mem _ tw_483)) ⟨Nat.le_of_ble_eq_true rfl, Nat.le_of_ble_eq_true rfl⟩) (fl_preV hK hSt hN hS hP (lt_CR hq) (kc_CR hq) rfl) rfl rfl hl.1 rfl (lv_room (Nat.le_of_ble_eq_true rfl)) d_CR_takeData_13 ⟨Nat.zero_le _, Nat.zero_le _⟩) hS (fun H locs hP hS => ?_)
    refine lv_if_eq (tgt := 21) hx hb d_CR_takeData_16 (by decide) (fun h_2 => ?_) (fun h_2 => ?_)
    ·
      have hG := hG.trans (if_pos h_2)
      refine lv_aload_n hx hb d_CR_takeData_21 rfl (lv_at hl 0 rfl) ?_
      refine lv_dup hx hb d_CR_takeData_22 rfl ?_
      refine gt_CR (k := 4) (v := .int (f 4)) hx hb hts hown hK hP hq (hts _ (List.mem_cons_of_mem _ tw_223)) (by decide) rfl rfl d_CR_takeData_23 ?_
      refine lv_iconst (v := 1) hx hb d_CR_takeData_26 (by decide) ?_
      refine lv_iload_n hx hb d_CR_takeData_27 rfl (lv_at hl 1 rfl) ?_
      refine lv_ishl hx hb d_CR_takeData_28 ?_
      refine lv_ior hx hb d_CR_takeData_29 ?_
      refine pt_CR (k := 4) hx hb hts hown hK hi hP hS hq (hts _ (List.mem_cons_of_mem _ tw_223)) (by decide) rfl rfl rfl rfl (Nat.le_of_ble_eq_true rfl) rfl d_CR_takeData_30 (fun H locs hP hS => ?_)
      refine lv_aload_n hx hb d_CR_takeData_33 rfl (lv_at hl 0 rfl) ?_
      refine gt_CR (k := 1) (v := .ref (ad (q + 1))) hx hb hts hown hK hP hq (hts _ (List.mem_cons_of_mem _ tw_216)) (by decide) rfl rfl d_CR_takeData_34 ?_
      refine lv_iload_n hx hb d_CR_takeData_37 rfl (lv_at hl 1 rfl) ?_
      refine lv_iload_n hx hb d_CR_takeData_38 rfl (lv_at hl 2 rfl) ?_
      refine as_CRw hx hb hK hi hP hS hq (by first | assumption | exact below_in16 (by assumption)) d_CR_takeData_39 (fun H locs hP hS => ?_)
      refine lv_aload_n hx hb d_CR_takeData_40 rfl (lv_at hl 0 rfl) ?_
      refine lv_iconst (v := 1) hx hb d_CR_takeData_41 (by decide) ?_
      refine pt_CR (k := 11) hx hb hts hown hK hi hP hS hq (hts _ (List.mem_cons_of_mem _ tw_232)) (by decide) rfl rfl rfl rfl (Nat.le_of_ble_eq_true rfl) rfl d_CR_takeData_42 (fun H locs hP hS => ?_)
      refine lv_iconst (v := 1) hx hb d_CR_takeData_45 (by decide) ?_
      exact fl_zret hx hb hr hlocks hP hS (rfl) (congrArg Prod.fst hG).symm (by rw [hG]) d_CR_takeData_46
    ·
      have hG := hG.trans (if_neg h_2)
      refine lv_iconst (v := 0) hx hb d_CR_takeData_19 (by decide) ?_
      exact fl_zret hx hb hr hlocks hP hS (rfl) (congrArg Prod.fst hG).symm (by rw [hG]) d_CR_takeData_20
theorem z_CR_takeData (f : Nat → Int32) (w : Nat → Int32) (x1 : Int32) (x2 : Int32) : (g_CR_takeData f w x1 x2).1 &&& 1 = (g_CR_takeData f w x1 x2).1 := by
  unfold g_CR_takeData
  repeat (first | split | with_reducible exact z_CR_has .. | with_reducible exact z_FL_isBelow .. | (show (0 : Int32) &&& 1 = 0; rfl) | (show (1 : Int32) &&& 1 = 1; rfl) | rfl)
theorem hd_CR_takeData : y_CR_takeData.cls ≠ "java/lang/invoke/MethodHandle" ∧ y_CR_takeData.cls ≠ "java/lang/invoke/VarHandle" ∧ (parseMethodDescriptor y_CR_takeData.desc).map (fun d => d.parameters.length) = some 2 := by decide +kernel
theorem kv_CR_takeData {R : Room} {s : State} {args : Array Value} {c0 : Cond} {own : String} {index : Nat} (hts : ∀ w ∈ c0 :: gw, w.before args s = true) (hl : (Cond.methodLink own index y_CR_takeData).before args s = true) (hR : 1 + 1 ≤ R.frames ∧ 8 + (3 + 11) + 21 ≤ R.locals) : CallW R s args own "FarLink$CraftRecord" index y_CR_takeData b_CR_takeData 3 (some .boolean) w_CR_takeData ({ frames := 1, cells := 0, slots := 0, locals := 21 } : Room) 0 0 2 := ⟨callB_of 2 hts (gw_in tw_491) rfl rfl rfl (hts _ (List.mem_cons_of_mem _ tw_9)) hl hd_CR_takeData hR, hts _ (List.mem_cons_of_mem _ tw_490), hts _ (List.mem_cons_of_mem _ ps_CR_takeData)⟩
def g_CR_hearOpen (f : Nat → Int32) (w : Nat → Int32) (x1 : Int32) (x2 : Int32) (x3 : Int32) : Int32 × (Nat → Int32) × (Nat → Int32) :=
  if x1 = 4 then ((0, ((g_CR_endWith (upd f 9 (12 * (f 0))) w 5).1), ((g_CR_endWith (upd f 9 (12 * (f 0))) w 5).2))) else (if x1 = 1 then (if ((g_CR_takeMetadata (upd f 9 (12 * (f 0))) w x2 x3).1) = 0 then ((0, ((g_CR_takeMetadata (upd f 9 (12 * (f 0))) w x2 x3).2.1), ((g_CR_takeMetadata (upd f 9 (12 * (f 0))) w x2 x3).2.2))) else (if (g_CR_lackingParts ((g_CR_takeMetadata (upd f 9 (12 * (f 0))) w x2 x3).2.1) ((g_CR_takeMetadata (upd f 9 (12 * (f 0))) w x2 x3).2.2)) = 0 then (if (((g_CR_takeMetadata (upd f 9 (12 * (f 0))) w x2 x3).2.1) 5) = (((g_CR_takeMetadata (upd f 9 (12 * (f 0))) w x2 x3).2.1) 7) then (if (g_FL_sumBelow ((g_CR_takeMetadata (upd f 9 (12 * (f 0))) w x2 x3).2.2) (((g_CR_takeMetadata (upd f 9 (12 * (f 0))) w x2 x3).2.1) 7)) = (((g_CR_takeMetadata (upd f 9 (12 * (f 0))) w x2 x3).2.1) 8) then ((1, ((g_CR_endWith ((g_CR_takeMetadata (upd f 9 (12 * (f 0))) w x2 x3).2.1) ((g_CR_takeMetadata (upd f 9 (12 * (f 0))) w x2 x3).2.2) 1).1), ((g_CR_endWith ((g_CR_takeMetadata (upd f 9 (12 * (f 0))) w x2 x3).2.1) ((g_CR_takeMetadata (upd f 9 (12 * (f 0))) w x2 x3).2.2) 1).2))) else ((0, ((g_CR_endWith ((g_CR_takeMetadata (upd f 9 (12 * (f 0))) w x2 x3).2.1) ((g_CR_takeMetadata (upd f 9 (12 * (f 0))) w x2 x3).2.2) 2).1), ((g_CR_endWith ((g_CR_takeMetadata (upd f 9 (12 * (f 0))) w x2 x3).2.1) ((g_CR_takeMetadata (upd f 9 (12 * (f 0))) w x2 x3).2.2) 2).2)))) else ((0, ((g_CR_endWith ((g_CR_takeMetadata (upd f 9 (12 * (f 0))) w x2 x3).2.1) ((g_CR_takeMetadata (upd f 9 (12 * (f 0))) w x2 x3).2.2) 2).1), ((g_CR_endWith ((g_CR_takeMetadata (upd f 9 (12 * (f 0))) w x2 x3).2.1) ((g_CR_takeMetadata (upd f 9 (12 * (f 0))) w x2 x3).2.2) 2).2)))) else ((0, ((g_CR_takeMetadata (upd f 9 (12 * (f 0))) w x2 x3).2.1), ((g_CR_takeMetadata (upd f 9 (12 * (f 0))) w x2 x3).2.2))))) else (if x1 = 2 then (if ((g_CR_takeData (upd f 9 (12 * (f 0))) w x2 x3).1) = 0 then ((0, ((g_CR_takeData (upd f 9 (12 * (f 0))) w x2 x3).2.1), ((g_CR_takeData (upd f 9 (12 * (f 0))) w x2 x3).2.2))) else (if (g_CR_lackingParts ((g_CR_takeData (upd f 9 (12 * (f 0))) w x2 x3).2.1) ((g_CR_takeData (upd f 9 (12 * (f 0))) w x2 x3).2.2)) = 0 then (if (((g_CR_takeData (upd f 9 (12 * (f 0))) w x2 x3).2.1) 5) = (((g_CR_takeData (upd f 9 (12 * (f 0))) w x2 x3).2.1) 7) then (if (g_FL_sumBelow ((g_CR_takeData (upd f 9 (12 * (f 0))) w x2 x3).2.2) (((g_CR_takeData (upd f 9 (12 * (f 0))) w x2 x3).2.1) 7)) = (((g_CR_takeData (upd f 9 (12 * (f 0))) w x2 x3).2.1) 8) then ((1, ((g_CR_endWith ((g_CR_takeData (upd f 9 (12 * (f 0))) w x2 x3).2.1) ((g_CR_takeData (upd f 9 (12 * (f 0))) w x2 x3).2.2) 1).1), ((g_CR_endWith ((g_CR_takeData (upd f 9 (12 * (f 0))) w x2 x3).2.1) ((g_CR_takeData (upd f 9 (12 * (f 0))) w x2 x3).2.2) 1).2))) else ((0, ((g_CR_endWith ((g_CR_takeData (upd f 9 (12 * (f 0))) w x2 x3).2.1) ((g_CR_takeData (upd f 9 (12 * (f 0))) w x2 x3).2.2) 2).1), ((g_CR_endWith ((g_CR_takeData (upd f 9 (12 * (f 0))) w x2 x3).2.1) ((g_CR_takeData (upd f 9 (12 * (f 0))) w x2 x3).2.2) 2).2)))) else ((0, ((g_CR_endWith ((g_CR_takeData (upd f 9 (12 * (f 0))) w x2 x3).2.1) ((g_CR_takeData (upd f 9 (12 * (f 0))) w x2 x3).2.2) 2).1), ((g_CR_endWith ((g_CR_takeData (upd f 9 (12 * (f 0))) w x2 x3).2.1) ((g_CR_takeData (upd f 9 (12 * (f 0))) w x2 x3).2.2) 2).2)))) else ((0, ((g_CR_takeData (upd f 9 (12 * (f 0))) w x2 x3).2.1), ((g_CR_takeData (upd f 9 (12 * (f 0))) w x2 x3).2.2))))) else (if x1 = 3 then (if ((g_CR_takeEof (upd f 9 (12 * (f 0))) w x2 x3).1) = 0 then ((0, ((g_CR_takeEof (upd f 9 (12 * (f 0))) w x2 x3).2.1), ((g_CR_takeEof (upd f 9 (12 * (f 0))) w x2 x3).2.2))) else (if (g_CR_lackingParts ((g_CR_takeEof (upd f 9 (12 * (f 0))) w x2 x3).2.1) ((g_CR_takeEof (upd f 9 (12 * (f 0))) w x2 x3).2.2)) = 0 then (if (((g_CR_takeEof (upd f 9 (12 * (f 0))) w x2 x3).2.1) 5) = (((g_CR_takeEof (upd f 9 (12 * (f 0))) w x2 x3).2.1) 7) then (if (g_FL_sumBelow ((g_CR_takeEof (upd f 9 (12 * (f 0))) w x2 x3).2.2) (((g_CR_takeEof (upd f 9 (12 * (f 0))) w x2 x3).2.1) 7)) = (((g_CR_takeEof (upd f 9 (12 * (f 0))) w x2 x3).2.1) 8) then ((1, ((g_CR_endWith ((g_CR_takeEof (upd f 9 (12 * (f 0))) w x2 x3).2.1) ((g_CR_takeEof (upd f 9 (12 * (f 0))) w x2 x3).2.2) 1).1), ((g_CR_endWith ((g_CR_takeEof (upd f 9 (12 * (f 0))) w x2 x3).2.1) ((g_CR_takeEof (upd f 9 (12 * (f 0))) w x2 x3).2.2) 1).2))) else ((0, ((g_CR_endWith ((g_CR_takeEof (upd f 9 (12 * (f 0))) w x2 x3).2.1) ((g_CR_takeEof (upd f 9 (12 * (f 0))) w x2 x3).2.2) 2).1), ((g_CR_endWith ((g_CR_takeEof (upd f 9 (12 * (f 0))) w x2 x3).2.1) ((g_CR_takeEof (upd f 9 (12 * (f 0))) w x2 x3).2.2) 2).2)))) else ((0, ((g_CR_endWith ((g_CR_takeEof (upd f 9 (12 * (f 0))) w x2 x3).2.1) ((g_CR_takeEof (upd f 9 (12 * (f 0))) w x2 x3).2.2) 2).1), ((g_CR_endWith ((g_CR_takeEof (upd f 9 (12 * (f 0))) w x2 x3).2.1) ((g_CR_takeEof (upd f 9 (12 * (f 0))) w x2 x3).2.2) 2).2)))) else ((0, ((g_CR_askForParts (upd ((g_CR_takeEof (upd f 9 (12 * (f 0))) w x2 x3).2.1) 11 1) ((g_CR_takeEof (upd f 9 (12 * (f 0))) w x2 x3).2.2)).1), ((g_CR_askForParts (upd ((g_CR_takeEof (upd f 9 (12 * (f 0))) w x2 x3).2.1) 11 1) ((g_CR_takeEof (upd f 9 (12 * (f 0))) w x2 x3).2.2)).2))))) else ((0, (upd f 9 (12 * (f 0))), w)))))
set_option maxHeartbeats 4000000 in
set_option maxRecDepth 100000 in
theorem c_CR_hearOpen (l : Launch) {D : va_G} {ad : Nat → Nat} {cA : Nat → ClassId} {st : Nat → Nat} (hi : fl_inj ad 88) {q : Nat} (hq : is_CR q) (M : fl_M) (f : Nat → Int32) (w : Nat → Int32) (x1 : Int32) (x2 : Int32) (x3 : Int32) : Met l y_CR_hearOpen w_CR_hearOpen ({ frames := 2, cells := 0, slots := 0, locals := 43 } : Room) (va_Pc [.ref (ad q), .int x1, .int x2, .int x3] (fl_B D cls (xt cA) (xSL st) xFN xMN ad (xc ad cA) 88 (pCR M q f w))) (va_Qi (fun r M' => r = (g_CR_hearOpen f w x1 x2 x3).1 ∧ M' = (pCR M q ((g_CR_hearOpen f w x1 x2 x3).2.1) ((g_CR_hearOpen f w x1 x2 x3).2.2))) (fl_E D cls ad (xc ad cA) 88) (fl_A ad 88)) 0 0 (fl_A ad 88) := by
  refine Met.ofW (cc := b_CR_hearOpen) (maxL := 6) (ret := (some .boolean)) (by decide) rfl ?_
  intro p e s m args below meth c s₁ B hml hv
  obtain ⟨rfl, hP, hK, hSt, hN⟩ := hv
  have hx := B.exec
  have hb := B.bytes
  have hr := B.returns
  have hts := atoms_spec (ws := w_CR_hearOpen) B.pre
  have hown : s.vm.findClass "FarLink$CraftRecord" = some m.cls := findClass_of_methodNamed B.named
  have hlocks := B.notSynchronized
  have hS : va_S (fl_A ad 88) s.heap s.heap [] := va_S.rf
  have hl := lv_entry ([.ref (ad q), .int x1, .int x2, .int x3]) (n := 6) (Nat.le_of_ble_eq_true rfl)
  rw [lg_entry_eq]
  generalize (lg_sl ([.ref (ad q), .int x1, .int x2, .int x3]) ++ List.replicate (6 - (lg_sl ([.ref (ad q), .int x1, .int x2, .int x3])).length) Slot.unset).toArray = ls at hl ⊢
  have hl : lv_has ls 6 [(0, .ref (ad q)), (1, .int x1), (2, .int x2), (3, .int x3)] := hl
  have hG := g_CR_hearOpen.eq_1 f w x1 x2 x3
  refine lv_aload_n hx hb d_CR_hearOpen_0 rfl (lv_at hl 0 rfl) ?_
  refine lv_bipush (v := 12) hx hb d_CR_hearOpen_1 (by decide) ?_
  refine lv_aload_n hx hb d_CR_hearOpen_3 rfl (lv_at hl 0 rfl) ?_
  refine gt_CR (k := 0) (v := .int (f 0)) hx hb hts hown hK hP hq (hts _ (List.mem_cons_of_mem _ tw_215)) (by decide) rfl rfl d_CR_hearOpen_4 ?_
  refine lv_imul hx hb d_CR_hearOpen_7 ?_
  refine pt_CR (k := 9) hx hb hts hown hK hi hP hS hq (hts _ (List.mem_cons_of_mem _ tw_230)) (by decide) rfl rfl rfl rfl (Nat.le_of_ble_eq_true rfl) rfl d_CR_hearOpen_8 (fun H locs hP hS => ?_)
  refine lv_iload_n hx hb d_CR_hearOpen_11 rfl (lv_at hl 1 rfl) ?_
  refine lv_iconst (v := 4) hx hb d_CR_hearOpen_12 (by decide) ?_
  refine lv_icmp_ne (tgt := 23) hx hb d_CR_hearOpen_13 (by decide) (fun h_1 => ?_) (fun h_1 => ?_)
  ·
    have hG := hG.trans (if_neg h_1)
    refine lv_iload_n hx hb d_CR_hearOpen_23 rfl (lv_at hl 1 rfl) ?_
    refine lv_iconst (v := 1) hx hb d_CR_hearOpen_24 (by decide) ?_
    refine lv_icmp_ne (tgt := 37) hx hb d_CR_hearOpen_25 (by decide) (fun h_2 => ?_) (fun h_2 => ?_)
    ·
      have hG := hG.trans (if_neg h_2)
      refine lv_iload_n hx hb d_CR_hearOpen_37 rfl (lv_at hl 1 rfl) ?_
      refine lv_iconst (v := 2) hx hb d_CR_hearOpen_38 (by decide) ?_
      refine lv_icmp_ne (tgt := 51) hx hb d_CR_hearOpen_39 (by decide) (fun h_3 => ?_) (fun h_3 => ?_)
      ·
        have hG := hG.trans (if_neg h_3)
        refine lv_iload_n hx hb d_CR_hearOpen_51 rfl (lv_at hl 1 rfl) ?_
        refine lv_iconst (v := 3) hx hb d_CR_hearOpen_52 (by decide) ?_
        refine lv_icmp_ne (tgt := 69) hx hb d_CR_hearOpen_53 (by decide) (fun h_4 => ?_) (fun h_4 => ?_)
        ·
          have hG := hG.trans (if_neg h_4)
          refine lv_iconst (v := 0) hx hb d_CR_hearOpen_69 (by decide) ?_
          refine lv_istore (lv' := [(4, .int 0), (0, .ref (ad q)), (1, .int x1), (2, .int x2), (3, .int x3)]) hx hb d_CR_hearOpen_70 hl (by decide) rfl (fun ls hl => ?_)
          refine lv_iload hx hb d_CR_hearOpen_72 (lv_at hl 0 rfl) ?_
          refine lv_if_ne (tgt := 79) hx hb d_CR_hearOpen_74 (by decide) (fun h_5 => absurd (by decide) h_5) (fun _ => ?_)
          refine lv_iconst (v := 0) hx hb d_CR_hearOpen_77 (by decide) ?_
          exact fl_zret hx hb hr hlocks hP hS (rfl) (congrArg Prod.fst hG).symm (by rw [hG]) d_CR_hearOpen_78
        ·
          have hG := hG.trans (if_pos h_4)
          refine lv_aload_n hx hb d_CR_hearOpen_56 rfl (lv_at hl 0 rfl) ?_
          refine lv_iload_n hx hb d_CR_hearOpen_57 rfl (lv_at hl 2 rfl) ?_
          refine lv_iload_n hx hb d_CR_hearOpen_58 rfl (lv_at hl 3 rfl) ?_
          refine fl_calli (va_runV (As := [.int x2, .int x3]) (rest := []) ⟨hx, hb, hml, hown, hts⟩ (c_CR_takeEof l hi hq M (upd f 9 (12 * (f 0))) w x2 x3) (kv_CR_takeEof hts (hts _ (List.mem_cons_of_mem _ tw_492)) ⟨Nat.le_of_ble_eq_true rfl, Nat.le_of_ble_eq_true rfl⟩) (fl_preV hK hSt hN hS hP (lt_CR hq) (kc_CR hq) rfl) rfl rfl hl.1 rfl (lv_room (Nat.le_of_ble_eq_true rfl)) d_CR_hearOpen_59 ⟨Nat.zero_le _, Nat.zero_le _⟩) hS (fun H locs hP hS => ?_)
          refine lv_if_eq (tgt := 69) hx hb d_CR_hearOpen_62 (by decide) (fun h_6 => ?_) (fun h_6 => ?_)
          ·
            have hG := hG.trans (if_pos h_6)
            refine lv_iconst (v := 0) hx hb d_CR_hearOpen_69 (by decide) ?_
            refine lv_istore (lv' := [(4, .int 0), (0, .ref (ad q)), (1, .int x1), (2, .int x2), (3, .int x3)]) hx hb d_CR_hearOpen_70 hl (by decide) rfl (fun ls hl => ?_)
            refine lv_iload hx hb d_CR_hearOpen_72 (lv_at hl 0 rfl) ?_
            refine lv_if_ne (tgt := 79) hx hb d_CR_hearOpen_74 (by decide) (fun h_7 => absurd (by decide) h_7) (fun _ => ?_)
            refine lv_iconst (v := 0) hx hb d_CR_hearOpen_77 (by decide) ?_
            exact fl_zret hx hb hr hlocks hP hS (rfl) (congrArg Prod.fst hG).symm (by rw [hG]) d_CR_hearOpen_78
          ·
            have hG := hG.trans (if_neg h_6)
            refine lv_iconst (v := 1) hx hb d_CR_hearOpen_65 (by decide) ?_
            refine lv_goto (tgt := 70) hx hb d_CR_hearOpen_66 (by decide) ?_
            refine lv_istore (lv' := [(4, .int 1), (0, .ref (ad q)), (1, .int x1), (2, .int x2), (3, .int x3)]) hx hb d_CR_hearOpen_70 hl (by decide) rfl (fun ls hl => ?_)
            refine lv_iload hx hb d_CR_hearOpen_72 (lv_at hl 0 rfl) ?_
            refine lv_if_ne (tgt := 79) hx hb d_CR_hearOpen_74 (by decide) (fun _ => ?_) (fun h_8 => absurd h_8 (by decide))
            refine lv_aload_n hx hb d_CR_hearOpen_79 rfl (lv_at hl 1 rfl) ?_
            refine fl_calli (va_runV (As := []) (rest := []) ⟨hx, hb, hml, hown, hts⟩ (c_CR_lackingParts l hi hq M ((g_CR_takeEof (upd f 9 (12 * (f 0))) w x2 x3).2.1) ((g_CR_takeEof (upd f 9 (12 * (f 0))) w x2 x3).2.2)) (kv_CR_lackingParts hts (hts _ (List.mem_cons_of_mem _ tw_497)) ⟨Nat.le_of_ble_eq_true rfl, Nat.le_of_ble_eq_true rfl⟩) (fl_preV hK hSt hN hS hP (lt_CR hq) (kc_CR hq) rfl) rfl rfl hl.1 rfl (lv_room (Nat.le_of_ble_eq_true rfl)) d_CR_hearOpen_80 ⟨Nat.zero_le _, Nat.zero_le _⟩) hS (fun H locs hP hS => ?_)
            refine lv_if_ne (tgt := 139) hx hb d_CR_hearOpen_83 (by decide) (fun h_9 => ?_) (fun h_9 => ?_)
            ·
              have hG := hG.trans (if_neg h_9)
              refine lv_iload_n hx hb d_CR_hearOpen_139 rfl (lv_at hl 2 rfl) ?_
              refine lv_iconst (v := 3) hx hb d_CR_hearOpen_140 (by decide) ?_
              refine lv_icmp_ne (tgt := 153) hx hb d_CR_hearOpen_141 (by decide) (fun h_10 => absurd (h_4) h_10) (fun _ => ?_)
              refine lv_aload_n hx hb d_CR_hearOpen_144 rfl (lv_at hl 1 rfl) ?_
              refine lv_iconst (v := 1) hx hb d_CR_hearOpen_145 (by decide) ?_
              refine pt_CR (k := 11) hx hb hts hown hK hi hP hS hq (hts _ (List.mem_cons_of_mem _ tw_232)) (by decide) rfl rfl rfl rfl (Nat.le_of_ble_eq_true rfl) rfl d_CR_hearOpen_146 (fun H locs hP hS => ?_)
              refine lv_aload_n hx hb d_CR_hearOpen_149 rfl (lv_at hl 1 rfl) ?_
              refine fl_callv (va_runV (As := []) (rest := []) ⟨hx, hb, hml, hown, hts⟩ (c_CR_askForParts l hi hq M (upd ((g_CR_takeEof (upd f 9 (12 * (f 0))) w x2 x3).2.1) 11 1) ((g_CR_takeEof (upd f 9 (12 * (f 0))) w x2 x3).2.2)) (kv_CR_askForParts hts (hts _ (List.mem_cons_of_mem _ tw_511)) ⟨Nat.le_of_ble_eq_true rfl, Nat.le_of_ble_eq_true rfl⟩) (fl_preV hK hSt hN hS hP (lt_CR hq) (kc_CR hq) rfl) rfl rfl hl.1 rfl (lv_room (Nat.le_of_ble_eq_true rfl)) d_CR_hearOpen_150 ⟨Nat.zero_le _, Nat.zero_le _⟩) hS (fun H locs hP hS => ?_)
              refine lv_iconst (v := 0) hx hb d_CR_hearOpen_153 (by decide) ?_
              exact fl_zret hx hb hr hlocks hP hS (rfl) (congrArg Prod.fst hG).symm (by rw [hG]) d_CR_hearOpen_154
            ·
              have hG := hG.trans (if_pos h_9)
              refine lv_aload_n hx hb d_CR_hearOpen_86 rfl (lv_at hl 1 rfl) ?_
              refine gt_CR (k := 5) (v := .int (((g_CR_takeEof (upd f 9 (12 * (f 0))) w x2 x3).2.1) 5)) hx hb hts hown hK hP hq (hts _ (List.mem_cons_of_mem _ tw_224)) (by decide) rfl rfl d_CR_hearOpen_87 ?_
              refine lv_aload_n hx hb d_CR_hearOpen_90 rfl (lv_at hl 1 rfl) ?_
              refine gt_CR (k := 7) (v := .int (((g_CR_takeEof (upd f 9 (12 * (f 0))) w x2 x3).2.1) 7)) hx hb hts hown hK hP hq (hts _ (List.mem_cons_of_mem _ tw_228)) (by decide) rfl rfl d_CR_hearOpen_91 ?_
              refine lv_icmp_ne (tgt := 119) hx hb d_CR_hearOpen_94 (by decide) (fun h_11 => ?_) (fun h_11 => ?_)
              ·
                have hG := hG.trans (if_neg h_11)
                refine lv_iconst (v := 0) hx hb d_CR_hearOpen_119 (by decide) ?_
                refine lv_istore (lv' := [(5, .int 0), (4, .int 1), (0, .ref (ad q)), (1, .int x1), (2, .int x2), (3, .int x3)]) hx hb d_CR_hearOpen_120 hl (by decide) rfl (fun ls hl => ?_)
                refine lv_aload_n hx hb d_CR_hearOpen_122 rfl (lv_at hl 2 rfl) ?_
                refine lv_iload hx hb d_CR_hearOpen_123 (lv_at hl 0 rfl) ?_
                refine lv_if_eq (tgt := 132) hx hb d_CR_hearOpen_125 (by decide) (fun _ => ?_) (fun h_12 => absurd (by decide) h_12)
                refine lv_iconst (v := 2) hx hb d_CR_hearOpen_132 (by decide) ?_
                refine fl_callv (va_runV (As := [.int 2]) (rest := []) ⟨hx, hb, hml, hown, hts⟩ (c_CR_endWith l hi hq M ((g_CR_takeEof (upd f 9 (12 * (f 0))) w x2 x3).2.1) ((g_CR_takeEof (upd f 9 (12 * (f 0))) w x2 x3).2.2) 2) (kv_CR_endWith hts (hts _ (List.mem_cons_of_mem _ tw_470)) ⟨Nat.le_of_ble_eq_true rfl, Nat.le_of_ble_eq_true rfl⟩) (fl_preV hK hSt hN hS hP (lt_CR hq) (kc_CR hq) rfl) rfl rfl hl.1 rfl (lv_room (Nat.le_of_ble_eq_true rfl)) d_CR_hearOpen_133 ⟨Nat.zero_le _, Nat.zero_le _⟩) hS (fun H locs hP hS => ?_)
                refine lv_iload hx hb d_CR_hearOpen_136 (lv_at hl 0 rfl) ?_
                exact fl_zret hx hb hr hlocks hP hS (rfl) (congrArg Prod.fst hG).symm (by rw [hG]) d_CR_hearOpen_138
              ·
                have hG := hG.trans (if_pos h_11)
                refine lv_aload_n hx hb d_CR_hearOpen_97 rfl (lv_at hl 1 rfl) ?_
                refine gt_CR (k := 7) (v := .int (((g_CR_takeEof (upd f 9 (12 * (f 0))) w x2 x3).2.1) 7)) hx hb hts hown hK hP hq (hts _ (List.mem_cons_of_mem _ tw_228)) (by decide) rfl rfl d_CR_hearOpen_98 ?_
                refine lv_aload_n hx hb d_CR_hearOpen_101 rfl (lv_at hl 1 rfl) ?_
                refine gt_CR (k := 1) (v := .ref (ad (q + 1))) hx hb hts hown hK hP hq (hts _ (List.mem_cons_of_mem _ tw_216)) (by decide) rfl rfl d_CR_hearOpen_102 ?_
                refine fl_calli (va_runSN (As := [.int (((g_CR_takeEof (upd f 9 (12 * (f 0))) w x2 x3).2.1) 7), .ref (ad (q + 1))]) (rest := []) ⟨hx, hb, hml, hown, hts⟩ (c_FL_sumBelow l hi ((g_CR_takeEof (upd f 9 (12 * (f 0))) w x2 x3).2.2) (pCR M q ((g_CR_takeEof (upd f 9 (12 * (f 0))) w x2 x3).2.1) ((g_CR_takeEof (upd f 9 (12 * (f 0))) w x2 x3).2.2)) (((g_CR_takeEof (upd f 9 (12 * (f 0))) w x2 x3).2.1) 7) ⟨is_I16_CR hq, pq_CR_w⟩) (kn_FL_sumBelow hts (hN.m 8 rfl) ⟨Nat.le_of_ble_eq_true rfl, Nat.le_of_ble_eq_true rfl⟩) (fl_preS hK hSt hN hS hP) rfl rfl hl.1 rfl (lv_room (Nat.le_of_ble_eq_true rfl)) d_CR_hearOpen_105 ⟨Nat.zero_le _, Nat.zero_le _⟩) hS (fun H locs hP hS => ?_)
                refine lv_aload_n hx hb d_CR_hearOpen_108 rfl (lv_at hl 1 rfl) ?_
                refine gt_CR (k := 8) (v := .int (((g_CR_takeEof (upd f 9 (12 * (f 0))) w x2 x3).2.1) 8)) hx hb hts hown hK hP hq (hts _ (List.mem_cons_of_mem _ tw_229)) (by decide) rfl rfl d_CR_hearOpen_109 ?_
                refine lv_icmp_ne (tgt := 119) hx hb d_CR_hearOpen_112 (by decide) (fun h_13 => ?_) (fun h_13 => ?_)
                ·
                  have hG := hG.trans (if_neg h_13)
                  refine lv_iconst (v := 0) hx hb d_CR_hearOpen_119 (by decide) ?_
                  refine lv_istore (lv' := [(5, .int 0), (4, .int 1), (0, .ref (ad q)), (1, .int x1), (2, .int x2), (3, .int x3)]) hx hb d_CR_hearOpen_120 hl (by decide) rfl (fun ls hl => ?_)
                  refine lv_aload_n hx hb d_CR_hearOpen_122 rfl (lv_at hl 2 rfl) ?_
                  refine lv_iload hx hb d_CR_hearOpen_123 (lv_at hl 0 rfl) ?_
                  refine lv_if_eq (tgt := 132) hx hb d_CR_hearOpen_125 (by decide) (fun _ => ?_) (fun h_14 => absurd (by decide) h_14)
                  refine lv_iconst (v := 2) hx hb d_CR_hearOpen_132 (by decide) ?_
                  refine fl_callv (va_runV (As := [.int 2]) (rest := []) ⟨hx, hb, hml, hown, hts⟩ (c_CR_endWith l hi hq M ((g_CR_takeEof (upd f 9 (12 * (f 0))) w x2 x3).2.1) ((g_CR_takeEof (upd f 9 (12 * (f 0))) w x2 x3).2.2) 2) (kv_CR_endWith hts (hts _ (List.mem_cons_of_mem _ tw_470)) ⟨Nat.le_of_ble_eq_true rfl, Nat.le_of_ble_eq_true rfl⟩) (fl_preV hK hSt hN hS hP (lt_CR hq) (kc_CR hq) rfl) rfl rfl hl.1 rfl (lv_room (Nat.le_of_ble_eq_true rfl)) d_CR_hearOpen_133 ⟨Nat.zero_le _, Nat.zero_le _⟩) hS (fun H locs hP hS => ?_)
                  refine lv_iload hx hb d_CR_hearOpen_136 (lv_at hl 0 rfl) ?_
                  exact fl_zret hx hb hr hlocks hP hS (rfl) (congrArg Prod.fst hG).symm (by rw [hG]) d_CR_hearOpen_138
                ·
                  have hG := hG.trans (if_pos h_13)
                  refine lv_iconst (v := 1) hx hb d_CR_hearOpen_115 (by decide) ?_
                  refine lv_goto (tgt := 120) hx hb d_CR_hearOpen_116 (by decide) ?_
                  refine lv_istore (lv' := [(5, .int 1), (4, .int 1), (0, .ref (ad q)), (1, .int x1), (2, .int x2), (3, .int x3)]) hx hb d_CR_hearOpen_120 hl (by decide) rfl (fun ls hl => ?_)
                  refine lv_aload_n hx hb d_CR_hearOpen_122 rfl (lv_at hl 2 rfl) ?_
                  refine lv_iload hx hb d_CR_hearOpen_123 (lv_at hl 0 rfl) ?_
                  refine lv_if_eq (tgt := 132) hx hb d_CR_hearOpen_125 (by decide) (fun h_15 => absurd h_15 (by decide)) (fun _ => ?_)
                  refine lv_iconst (v := 1) hx hb d_CR_hearOpen_128 (by decide) ?_
                  refine lv_goto (tgt := 133) hx hb d_CR_hearOpen_129 (by decide) ?_
                  refine fl_callv (va_runV (As := [.int 1]) (rest := []) ⟨hx, hb, hml, hown, hts⟩ (c_CR_endWith l hi hq M ((g_CR_takeEof (upd f 9 (12 * (f 0))) w x2 x3).2.1) ((g_CR_takeEof (upd f 9 (12 * (f 0))) w x2 x3).2.2) 1) (kv_CR_endWith hts (hts _ (List.mem_cons_of_mem _ tw_470)) ⟨Nat.le_of_ble_eq_true rfl, Nat.le_of_ble_eq_true rfl⟩) (fl_preV hK hSt hN hS hP (lt_CR hq) (kc_CR hq) rfl) rfl rfl hl.1 rfl (lv_room (Nat.le_of_ble_eq_true rfl)) d_CR_hearOpen_133 ⟨Nat.zero_le _, Nat.zero_le _⟩) hS (fun H locs hP hS => ?_)
                  refine lv_iload hx hb d_CR_hearOpen_136 (lv_at hl 0 rfl) ?_
                  exact fl_zret hx hb hr hlocks hP hS (rfl) (congrArg Prod.fst hG).symm (by rw [hG]) d_CR_hearOpen_138
      ·
        have hG := hG.trans (if_pos h_3)
        refine lv_aload_n hx hb d_CR_hearOpen_42 rfl (lv_at hl 0 rfl) ?_
        refine lv_iload_n hx hb d_CR_hearOpen_43 rfl (lv_at hl 2 rfl) ?_
        refine lv_iload_n hx hb d_CR_hearOpen_44 rfl (lv_at hl 3 rfl) ?_
        refine fl_calli (va_runV (As := [.int x2, .int x3]) (rest := []) ⟨hx, hb, hml, hown, hts⟩ (c_CR_takeData l hi hq M (upd f 9 (12 * (f 0))) w x2 x3) (kv_CR_takeData hts (hts _ (List.mem_cons_of_mem _ tw_488)) ⟨Nat.le_of_ble_eq_true rfl, Nat.le_of_ble_eq_true rfl⟩) (fl_preV hK hSt hN hS hP (lt_CR hq) (kc_CR hq) rfl) rfl rfl hl.1 rfl (lv_room (Nat.le_of_ble_eq_true rfl)) d_CR_hearOpen_45 ⟨Nat.zero_le _, Nat.zero_le _⟩) hS (fun H locs hP hS => ?_)
        refine lv_if_ne (tgt := 65) hx hb d_CR_hearOpen_48 (by decide) (fun h_16 => ?_) (fun h_16 => ?_)
        ·
          have hG := hG.trans (if_neg h_16)
          refine lv_iconst (v := 1) hx hb d_CR_hearOpen_65 (by decide) ?_
          refine lv_goto (tgt := 70) hx hb d_CR_hearOpen_66 (by decide) ?_
          refine lv_istore (lv' := [(4, .int 1), (0, .ref (ad q)), (1, .int x1), (2, .int x2), (3, .int x3)]) hx hb d_CR_hearOpen_70 hl (by decide) rfl (fun ls hl => ?_)
          refine lv_iload hx hb d_CR_hearOpen_72 (lv_at hl 0 rfl) ?_
          refine lv_if_ne (tgt := 79) hx hb d_CR_hearOpen_74 (by decide) (fun _ => ?_) (fun h_17 => absurd h_17 (by decide))
          refine lv_aload_n hx hb d_CR_hearOpen_79 rfl (lv_at hl 1 rfl) ?_
          refine fl_calli (va_runV (As := []) (rest := []) ⟨hx, hb, hml, hown, hts⟩ (c_CR_lackingParts l hi hq M ((g_CR_takeData (upd f 9 (12 * (f 0))) w x2 x3).2.1) ((g_CR_takeData (upd f 9 (12 * (f 0))) w x2 x3).2.2)) (kv_CR_lackingParts hts (hts _ (List.mem_cons_of_mem _ tw_497)) ⟨Nat.le_of_ble_eq_true rfl, Nat.le_of_ble_eq_true rfl⟩) (fl_preV hK hSt hN hS hP (lt_CR hq) (kc_CR hq) rfl) rfl rfl hl.1 rfl (lv_room (Nat.le_of_ble_eq_true rfl)) d_CR_hearOpen_80 ⟨Nat.zero_le _, Nat.zero_le _⟩) hS (fun H locs hP hS => ?_)
          refine lv_if_ne (tgt := 139) hx hb d_CR_hearOpen_83 (by decide) (fun h_18 => ?_) (fun h_18 => ?_)
          ·
            have hG := hG.trans (if_neg h_18)
            refine lv_iload_n hx hb d_CR_hearOpen_139 rfl (lv_at hl 2 rfl) ?_
            refine lv_iconst (v := 3) hx hb d_CR_hearOpen_140 (by decide) ?_
            refine lv_icmp_ne (tgt := 153) hx hb d_CR_hearOpen_141 (by decide) (fun _ => ?_) (fun h_19 => absurd h_19 (by rw [h_3]; decide))
            refine lv_iconst (v := 0) hx hb d_CR_hearOpen_153 (by decide) ?_
            exact fl_zret hx hb hr hlocks hP hS (rfl) (congrArg Prod.fst hG).symm (by rw [hG]) d_CR_hearOpen_154
          ·
            have hG := hG.trans (if_pos h_18)
            refine lv_aload_n hx hb d_CR_hearOpen_86 rfl (lv_at hl 1 rfl) ?_
            refine gt_CR (k := 5) (v := .int (((g_CR_takeData (upd f 9 (12 * (f 0))) w x2 x3).2.1) 5)) hx hb hts hown hK hP hq (hts _ (List.mem_cons_of_mem _ tw_224)) (by decide) rfl rfl d_CR_hearOpen_87 ?_
            refine lv_aload_n hx hb d_CR_hearOpen_90 rfl (lv_at hl 1 rfl) ?_
            refine gt_CR (k := 7) (v := .int (((g_CR_takeData (upd f 9 (12 * (f 0))) w x2 x3).2.1) 7)) hx hb hts hown hK hP hq (hts _ (List.mem_cons_of_mem _ tw_228)) (by decide) rfl rfl d_CR_hearOpen_91 ?_
            refine lv_icmp_ne (tgt := 119) hx hb d_CR_hearOpen_94 (by decide) (fun h_20 => ?_) (fun h_20 => ?_)
            ·
              have hG := hG.trans (if_neg h_20)
              refine lv_iconst (v := 0) hx hb d_CR_hearOpen_119 (by decide) ?_
              refine lv_istore (lv' := [(5, .int 0), (4, .int 1), (0, .ref (ad q)), (1, .int x1), (2, .int x2), (3, .int x3)]) hx hb d_CR_hearOpen_120 hl (by decide) rfl (fun ls hl => ?_)
              refine lv_aload_n hx hb d_CR_hearOpen_122 rfl (lv_at hl 2 rfl) ?_
              refine lv_iload hx hb d_CR_hearOpen_123 (lv_at hl 0 rfl) ?_
              refine lv_if_eq (tgt := 132) hx hb d_CR_hearOpen_125 (by decide) (fun _ => ?_) (fun h_21 => absurd (by decide) h_21)
              refine lv_iconst (v := 2) hx hb d_CR_hearOpen_132 (by decide) ?_
              refine fl_callv (va_runV (As := [.int 2]) (rest := []) ⟨hx, hb, hml, hown, hts⟩ (c_CR_endWith l hi hq M ((g_CR_takeData (upd f 9 (12 * (f 0))) w x2 x3).2.1) ((g_CR_takeData (upd f 9 (12 * (f 0))) w x2 x3).2.2) 2) (kv_CR_endWith hts (hts _ (List.mem_cons_of_mem _ tw_470)) ⟨Nat.le_of_ble_eq_true rfl, Nat.le_of_ble_eq_true rfl⟩) (fl_preV hK hSt hN hS hP (lt_CR hq) (kc_CR hq) rfl) rfl rfl hl.1 rfl (lv_room (Nat.le_of_ble_eq_true rfl)) d_CR_hearOpen_133 ⟨Nat.zero_le _, Nat.zero_le _⟩) hS (fun H locs hP hS => ?_)
              refine lv_iload hx hb d_CR_hearOpen_136 (lv_at hl 0 rfl) ?_
              exact fl_zret hx hb hr hlocks hP hS (rfl) (congrArg Prod.fst hG).symm (by rw [hG]) d_CR_hearOpen_138
            ·
              have hG := hG.trans (if_pos h_20)
              refine lv_aload_n hx hb d_CR_hearOpen_97 rfl (lv_at hl 1 rfl) ?_
              refine gt_CR (k := 7) (v := .int (((g_CR_takeData (upd f 9 (12 * (f 0))) w x2 x3).2.1) 7)) hx hb hts hown hK hP hq (hts _ (List.mem_cons_of_mem _ tw_228)) (by decide) rfl rfl d_CR_hearOpen_98 ?_
              refine lv_aload_n hx hb d_CR_hearOpen_101 rfl (lv_at hl 1 rfl) ?_
              refine gt_CR (k := 1) (v := .ref (ad (q + 1))) hx hb hts hown hK hP hq (hts _ (List.mem_cons_of_mem _ tw_216)) (by decide) rfl rfl d_CR_hearOpen_102 ?_
              refine fl_calli (va_runSN (As := [.int (((g_CR_takeData (upd f 9 (12 * (f 0))) w x2 x3).2.1) 7), .ref (ad (q + 1))]) (rest := []) ⟨hx, hb, hml, hown, hts⟩ (c_FL_sumBelow l hi ((g_CR_takeData (upd f 9 (12 * (f 0))) w x2 x3).2.2) (pCR M q ((g_CR_takeData (upd f 9 (12 * (f 0))) w x2 x3).2.1) ((g_CR_takeData (upd f 9 (12 * (f 0))) w x2 x3).2.2)) (((g_CR_takeData (upd f 9 (12 * (f 0))) w x2 x3).2.1) 7) ⟨is_I16_CR hq, pq_CR_w⟩) (kn_FL_sumBelow hts (hN.m 8 rfl) ⟨Nat.le_of_ble_eq_true rfl, Nat.le_of_ble_eq_true rfl⟩) (fl_preS hK hSt hN hS hP) rfl rfl hl.1 rfl (lv_room (Nat.le_of_ble_eq_true rfl)) d_CR_hearOpen_105 ⟨Nat.zero_le _, Nat.zero_le _⟩) hS (fun H locs hP hS => ?_)
              refine lv_aload_n hx hb d_CR_hearOpen_108 rfl (lv_at hl 1 rfl) ?_
              refine gt_CR (k := 8) (v := .int (((g_CR_takeData (upd f 9 (12 * (f 0))) w x2 x3).2.1) 8)) hx hb hts hown hK hP hq (hts _ (List.mem_cons_of_mem _ tw_229)) (by decide) rfl rfl d_CR_hearOpen_109 ?_
              refine lv_icmp_ne (tgt := 119) hx hb d_CR_hearOpen_112 (by decide) (fun h_22 => ?_) (fun h_22 => ?_)
              ·
                have hG := hG.trans (if_neg h_22)
                refine lv_iconst (v := 0) hx hb d_CR_hearOpen_119 (by decide) ?_
                refine lv_istore (lv' := [(5, .int 0), (4, .int 1), (0, .ref (ad q)), (1, .int x1), (2, .int x2), (3, .int x3)]) hx hb d_CR_hearOpen_120 hl (by decide) rfl (fun ls hl => ?_)
                refine lv_aload_n hx hb d_CR_hearOpen_122 rfl (lv_at hl 2 rfl) ?_
                refine lv_iload hx hb d_CR_hearOpen_123 (lv_at hl 0 rfl) ?_
                refine lv_if_eq (tgt := 132) hx hb d_CR_hearOpen_125 (by decide) (fun _ => ?_) (fun h_23 => absurd (by decide) h_23)
                refine lv_iconst (v := 2) hx hb d_CR_hearOpen_132 (by decide) ?_
                refine fl_callv (va_runV (As := [.int 2]) (rest := []) ⟨hx, hb, hml, hown, hts⟩ (c_CR_endWith l hi hq M ((g_CR_takeData (upd f 9 (12 * (f 0))) w x2 x3).2.1) ((g_CR_takeData (upd f 9 (12 * (f 0))) w x2 x3).2.2) 2) (kv_CR_endWith hts (hts _ (List.mem_cons_of_mem _ tw_470)) ⟨Nat.le_of_ble_eq_true rfl, Nat.le_of_ble_eq_true rfl⟩) (fl_preV hK hSt hN hS hP (lt_CR hq) (kc_CR hq) rfl) rfl rfl hl.1 rfl (lv_room (Nat.le_of_ble_eq_true rfl)) d_CR_hearOpen_133 ⟨Nat.zero_le _, Nat.zero_le _⟩) hS (fun H locs hP hS => ?_)
                refine lv_iload hx hb d_CR_hearOpen_136 (lv_at hl 0 rfl) ?_
                exact fl_zret hx hb hr hlocks hP hS (rfl) (congrArg Prod.fst hG).symm (by rw [hG]) d_CR_hearOpen_138
              ·
                have hG := hG.trans (if_pos h_22)
                refine lv_iconst (v := 1) hx hb d_CR_hearOpen_115 (by decide) ?_
                refine lv_goto (tgt := 120) hx hb d_CR_hearOpen_116 (by decide) ?_
                refine lv_istore (lv' := [(5, .int 1), (4, .int 1), (0, .ref (ad q)), (1, .int x1), (2, .int x2), (3, .int x3)]) hx hb d_CR_hearOpen_120 hl (by decide) rfl (fun ls hl => ?_)
                refine lv_aload_n hx hb d_CR_hearOpen_122 rfl (lv_at hl 2 rfl) ?_
                refine lv_iload hx hb d_CR_hearOpen_123 (lv_at hl 0 rfl) ?_
                refine lv_if_eq (tgt := 132) hx hb d_CR_hearOpen_125 (by decide) (fun h_24 => absurd h_24 (by decide)) (fun _ => ?_)
                refine lv_iconst (v := 1) hx hb d_CR_hearOpen_128 (by decide) ?_
                refine lv_goto (tgt := 133) hx hb d_CR_hearOpen_129 (by decide) ?_
                refine fl_callv (va_runV (As := [.int 1]) (rest := []) ⟨hx, hb, hml, hown, hts⟩ (c_CR_endWith l hi hq M ((g_CR_takeData (upd f 9 (12 * (f 0))) w x2 x3).2.1) ((g_CR_takeData (upd f 9 (12 * (f 0))) w x2 x3).2.2) 1) (kv_CR_endWith hts (hts _ (List.mem_cons_of_mem _ tw_470)) ⟨Nat.le_of_ble_eq_true rfl, Nat.le_of_ble_eq_true rfl⟩) (fl_preV hK hSt hN hS hP (lt_CR hq) (kc_CR hq) rfl) rfl rfl hl.1 rfl (lv_room (Nat.le_of_ble_eq_true rfl)) d_CR_hearOpen_133 ⟨Nat.zero_le _, Nat.zero_le _⟩) hS (fun H locs hP hS => ?_)
                refine lv_iload hx hb d_CR_hearOpen_136 (lv_at hl 0 rfl) ?_
                exact fl_zret hx hb hr hlocks hP hS (rfl) (congrArg Prod.fst hG).symm (by rw [hG]) d_CR_hearOpen_138
        ·
          have hG := hG.trans (if_pos h_16)
          refine lv_iload_n hx hb d_CR_hearOpen_51 rfl (lv_at hl 1 rfl) ?_
          refine lv_iconst (v := 3) hx hb d_CR_hearOpen_52 (by decide) ?_
          refine lv_icmp_ne (tgt := 69) hx hb d_CR_hearOpen_53 (by decide) (fun _ => ?_) (fun h_25 => absurd h_25 (by rw [h_3]; decide))
          refine lv_iconst (v := 0) hx hb d_CR_hearOpen_69 (by decide) ?_
          refine lv_istore (lv' := [(4, .int 0), (0, .ref (ad q)), (1, .int x1), (2, .int x2), (3, .int x3)]) hx hb d_CR_hearOpen_70 hl (by decide) rfl (fun ls hl => ?_)
          refine lv_iload hx hb d_CR_hearOpen_72 (lv_at hl 0 rfl) ?_
          refine lv_if_ne (tgt := 79) hx hb d_CR_hearOpen_74 (by decide) (fun h_26 => absurd (by decide) h_26) (fun _ => ?_)
          refine lv_iconst (v := 0) hx hb d_CR_hearOpen_77 (by decide) ?_
          exact fl_zret hx hb hr hlocks hP hS (rfl) (congrArg Prod.fst hG).symm (by rw [hG]) d_CR_hearOpen_78
    ·
      have hG := hG.trans (if_pos h_2)
      refine lv_aload_n hx hb d_CR_hearOpen_28 rfl (lv_at hl 0 rfl) ?_
      refine lv_iload_n hx hb d_CR_hearOpen_29 rfl (lv_at hl 2 rfl) ?_
      refine lv_iload_n hx hb d_CR_hearOpen_30 rfl (lv_at hl 3 rfl) ?_
      refine fl_calli (va_runV (As := [.int x2, .int x3]) (rest := []) ⟨hx, hb, hml, hown, hts⟩ (c_CR_takeMetadata l hi hq M (upd f 9 (12 * (f 0))) w x2 x3) (kv_CR_takeMetadata hts (hts _ (List.mem_cons_of_mem _ tw_478)) ⟨Nat.le_of_ble_eq_true rfl, Nat.le_of_ble_eq_true rfl⟩) (fl_preV hK hSt hN hS hP (lt_CR hq) (kc_CR hq) rfl) rfl rfl hl.1 rfl (lv_room (Nat.le_of_ble_eq_true rfl)) d_CR_hearOpen_31 ⟨Nat.zero_le _, Nat.zero_le _⟩) hS (fun H locs hP hS => ?_)
      refine lv_if_ne (tgt := 65) hx hb d_CR_hearOpen_34 (by decide) (fun h_27 => ?_) (fun h_27 => ?_)
      ·
        have hG := hG.trans (if_neg h_27)
        refine lv_iconst (v := 1) hx hb d_CR_hearOpen_65 (by decide) ?_
        refine lv_goto (tgt := 70) hx hb d_CR_hearOpen_66 (by decide) ?_
        refine lv_istore (lv' := [(4, .int 1), (0, .ref (ad q)), (1, .int x1), (2, .int x2), (3, .int x3)]) hx hb d_CR_hearOpen_70 hl (by decide) rfl (fun ls hl => ?_)
        refine lv_iload hx hb d_CR_hearOpen_72 (lv_at hl 0 rfl) ?_
        refine lv_if_ne (tgt := 79) hx hb d_CR_hearOpen_74 (by decide) (fun _ => ?_) (fun h_28 => absurd h_28 (by decide))
        refine lv_aload_n hx hb d_CR_hearOpen_79 rfl (lv_at hl 1 rfl) ?_
        refine fl_calli (va_runV (As := []) (rest := []) ⟨hx, hb, hml, hown, hts⟩ (c_CR_lackingParts l hi hq M ((g_CR_takeMetadata (upd f 9 (12 * (f 0))) w x2 x3).2.1) ((g_CR_takeMetadata (upd f 9 (12 * (f 0))) w x2 x3).2.2)) (kv_CR_lackingParts hts (hts _ (List.mem_cons_of_mem _ tw_497)) ⟨Nat.le_of_ble_eq_true rfl, Nat.le_of_ble_eq_true rfl⟩) (fl_preV hK hSt hN hS hP (lt_CR hq) (kc_CR hq) rfl) rfl rfl hl.1 rfl (lv_room (Nat.le_of_ble_eq_true rfl)) d_CR_hearOpen_80 ⟨Nat.zero_le _, Nat.zero_le _⟩) hS (fun H locs hP hS => ?_)
        refine lv_if_ne (tgt := 139) hx hb d_CR_hearOpen_83 (by decide) (fun h_29 => ?_) (fun h_29 => ?_)
        ·
          have hG := hG.trans (if_neg h_29)
          refine lv_iload_n hx hb d_CR_hearOpen_139 rfl (lv_at hl 2 rfl) ?_
          refine lv_iconst (v := 3) hx hb d_CR_hearOpen_140 (by decide) ?_
          refine lv_icmp_ne (tgt := 153) hx hb d_CR_hearOpen_141 (by decide) (fun _ => ?_) (fun h_30 => absurd h_30 (by rw [h_2]; decide))
          refine lv_iconst (v := 0) hx hb d_CR_hearOpen_153 (by decide) ?_
          exact fl_zret hx hb hr hlocks hP hS (rfl) (congrArg Prod.fst hG).symm (by rw [hG]) d_CR_hearOpen_154
        ·
          have hG := hG.trans (if_pos h_29)
          refine lv_aload_n hx hb d_CR_hearOpen_86 rfl (lv_at hl 1 rfl) ?_
          refine gt_CR (k := 5) (v := .int (((g_CR_takeMetadata (upd f 9 (12 * (f 0))) w x2 x3).2.1) 5)) hx hb hts hown hK hP hq (hts _ (List.mem_cons_of_mem _ tw_224)) (by decide) rfl rfl d_CR_hearOpen_87 ?_
          refine lv_aload_n hx hb d_CR_hearOpen_90 rfl (lv_at hl 1 rfl) ?_
          refine gt_CR (k := 7) (v := .int (((g_CR_takeMetadata (upd f 9 (12 * (f 0))) w x2 x3).2.1) 7)) hx hb hts hown hK hP hq (hts _ (List.mem_cons_of_mem _ tw_228)) (by decide) rfl rfl d_CR_hearOpen_91 ?_
          refine lv_icmp_ne (tgt := 119) hx hb d_CR_hearOpen_94 (by decide) (fun h_31 => ?_) (fun h_31 => ?_)
          ·
            have hG := hG.trans (if_neg h_31)
            refine lv_iconst (v := 0) hx hb d_CR_hearOpen_119 (by decide) ?_
            refine lv_istore (lv' := [(5, .int 0), (4, .int 1), (0, .ref (ad q)), (1, .int x1), (2, .int x2), (3, .int x3)]) hx hb d_CR_hearOpen_120 hl (by decide) rfl (fun ls hl => ?_)
            refine lv_aload_n hx hb d_CR_hearOpen_122 rfl (lv_at hl 2 rfl) ?_
            refine lv_iload hx hb d_CR_hearOpen_123 (lv_at hl 0 rfl) ?_
            refine lv_if_eq (tgt := 132) hx hb d_CR_hearOpen_125 (by decide) (fun _ => ?_) (fun h_32 => absurd (by decide) h_32)
            refine lv_iconst (v := 2) hx hb d_CR_hearOpen_132 (by decide) ?_
            refine fl_callv (va_runV (As := [.int 2]) (rest := []) ⟨hx, hb, hml, hown, hts⟩ (c_CR_endWith l hi hq M ((g_CR_takeMetadata (upd f 9 (12 * (f 0))) w x2 x3).2.1) ((g_CR_takeMetadata (upd f 9 (12 * (f 0))) w x2 x3).2.2) 2) (kv_CR_endWith hts (hts _ (List.mem_cons_of_mem _ tw_470)) ⟨Nat.le_of_ble_eq_true rfl, Nat.le_of_ble_eq_true rfl⟩) (fl_preV hK hSt hN hS hP (lt_CR hq) (kc_CR hq) rfl) rfl rfl hl.1 rfl (lv_room (Nat.le_of_ble_eq_true rfl)) d_CR_hearOpen_133 ⟨Nat.zero_le _, Nat.zero_le _⟩) hS (fun H locs hP hS => ?_)
            refine lv_iload hx hb d_CR_hearOpen_136 (lv_at hl 0 rfl) ?_
            exact fl_zret hx hb hr hlocks hP hS (rfl) (congrArg Prod.fst hG).symm (by rw [hG]) d_CR_hearOpen_138
          ·
            have hG := hG.trans (if_pos h_31)
            refine lv_aload_n hx hb d_CR_hearOpen_97 rfl (lv_at hl 1 rfl) ?_
            refine gt_CR (k := 7) (v := .int (((g_CR_takeMetadata (upd f 9 (12 * (f 0))) w x2 x3).2.1) 7)) hx hb hts hown hK hP hq (hts _ (List.mem_cons_of_mem _ tw_228)) (by decide) rfl rfl d_CR_hearOpen_98 ?_
            refine lv_aload_n hx hb d_CR_hearOpen_101 rfl (lv_at hl 1 rfl) ?_
            refine gt_CR (k := 1) (v := .ref (ad (q + 1))) hx hb hts hown hK hP hq (hts _ (List.mem_cons_of_mem _ tw_216)) (by decide) rfl rfl d_CR_hearOpen_102 ?_
            refine fl_calli (va_runSN (As := [.int (((g_CR_takeMetadata (upd f 9 (12 * (f 0))) w x2 x3).2.1) 7), .ref (ad (q + 1))]) (rest := []) ⟨hx, hb, hml, hown, hts⟩ (c_FL_sumBelow l hi ((g_CR_takeMetadata (upd f 9 (12 * (f 0))) w x2 x3).2.2) (pCR M q ((g_CR_takeMetadata (upd f 9 (12 * (f 0))) w x2 x3).2.1) ((g_CR_takeMetadata (upd f 9 (12 * (f 0))) w x2 x3).2.2)) (((g_CR_takeMetadata (upd f 9 (12 * (f 0))) w x2 x3).2.1) 7) ⟨is_I16_CR hq, pq_CR_w⟩) (kn_FL_sumBelow hts (hN.m 8 rfl) ⟨Nat.le_of_ble_eq_true rfl, Nat.le_of_ble_eq_true rfl⟩) (fl_preS hK hSt hN hS hP) rfl rfl hl.1 rfl (lv_room (Nat.le_of_ble_eq_true rfl)) d_CR_hearOpen_105 ⟨Nat.zero_le _, Nat.zero_le _⟩) hS (fun H locs hP hS => ?_)
            refine lv_aload_n hx hb d_CR_hearOpen_108 rfl (lv_at hl 1 rfl) ?_
            refine gt_CR (k := 8) (v := .int (((g_CR_takeMetadata (upd f 9 (12 * (f 0))) w x2 x3).2.1) 8)) hx hb hts hown hK hP hq (hts _ (List.mem_cons_of_mem _ tw_229)) (by decide) rfl rfl d_CR_hearOpen_109 ?_
            refine lv_icmp_ne (tgt := 119) hx hb d_CR_hearOpen_112 (by decide) (fun h_33 => ?_) (fun h_33 => ?_)
            ·
              have hG := hG.trans (if_neg h_33)
              refine lv_iconst (v := 0) hx hb d_CR_hearOpen_119 (by decide) ?_
              refine lv_istore (lv' := [(5, .int 0), (4, .int 1), (0, .ref (ad q)), (1, .int x1), (2, .int x2), (3, .int x3)]) hx hb d_CR_hearOpen_120 hl (by decide) rfl (fun ls hl => ?_)
              refine lv_aload_n hx hb d_CR_hearOpen_122 rfl (lv_at hl 2 rfl) ?_
              refine lv_iload hx hb d_CR_hearOpen_123 (lv_at hl 0 rfl) ?_
              refine lv_if_eq (tgt := 132) hx hb d_CR_hearOpen_125 (by decide) (fun _ => ?_) (fun h_34 => absurd (by decide) h_34)
              refine lv_iconst (v := 2) hx hb d_CR_hearOpen_132 (by decide) ?_
              refine fl_callv (va_runV (As := [.int 2]) (rest := []) ⟨hx, hb, hml, hown, hts⟩ (c_CR_endWith l hi hq M ((g_CR_takeMetadata (upd f 9 (12 * (f 0))) w x2 x3).2.1) ((g_CR_takeMetadata (upd f 9 (12 * (f 0))) w x2 x3).2.2) 2) (kv_CR_endWith hts (hts _ (List.mem_cons_of_mem _ tw_470)) ⟨Nat.le_of_ble_eq_true rfl, Nat.le_of_ble_eq_true rfl⟩) (fl_preV hK hSt hN hS hP (lt_CR hq) (kc_CR hq) rfl) rfl rfl hl.1 rfl (lv_room (Nat.le_of_ble_eq_true rfl)) d_CR_hearOpen_133 ⟨Nat.zero_le _, Nat.zero_le _⟩) hS (fun H locs hP hS => ?_)
              refine lv_iload hx hb d_CR_hearOpen_136 (lv_at hl 0 rfl) ?_
              exact fl_zret hx hb hr hlocks hP hS (rfl) (congrArg Prod.fst hG).symm (by rw [hG]) d_CR_hearOpen_138
            ·
              have hG := hG.trans (if_pos h_33)
              refine lv_iconst (v := 1) hx hb d_CR_hearOpen_115 (by decide) ?_
              refine lv_goto (tgt := 120) hx hb d_CR_hearOpen_116 (by decide) ?_
              refine lv_istore (lv' := [(5, .int 1), (4, .int 1), (0, .ref (ad q)), (1, .int x1), (2, .int x2), (3, .int x3)]) hx hb d_CR_hearOpen_120 hl (by decide) rfl (fun ls hl => ?_)
              refine lv_aload_n hx hb d_CR_hearOpen_122 rfl (lv_at hl 2 rfl) ?_
              refine lv_iload hx hb d_CR_hearOpen_123 (lv_at hl 0 rfl) ?_
              refine lv_if_eq (tgt := 132) hx hb d_CR_hearOpen_125 (by decide) (fun h_35 => absurd h_35 (by decide)) (fun _ => ?_)
              refine lv_iconst (v := 1) hx hb d_CR_hearOpen_128 (by decide) ?_
              refine lv_goto (tgt := 133) hx hb d_CR_hearOpen_129 (by decide) ?_
              refine fl_callv (va_runV (As := [.int 1]) (rest := []) ⟨hx, hb, hml, hown, hts⟩ (c_CR_endWith l hi hq M ((g_CR_takeMetadata (upd f 9 (12 * (f 0))) w x2 x3).2.1) ((g_CR_takeMetadata (upd f 9 (12 * (f 0))) w x2 x3).2.2) 1) (kv_CR_endWith hts (hts _ (List.mem_cons_of_mem _ tw_470)) ⟨Nat.le_of_ble_eq_true rfl, Nat.le_of_ble_eq_true rfl⟩) (fl_preV hK hSt hN hS hP (lt_CR hq) (kc_CR hq) rfl) rfl rfl hl.1 rfl (lv_room (Nat.le_of_ble_eq_true rfl)) d_CR_hearOpen_133 ⟨Nat.zero_le _, Nat.zero_le _⟩) hS (fun H locs hP hS => ?_)
              refine lv_iload hx hb d_CR_hearOpen_136 (lv_at hl 0 rfl) ?_
              exact fl_zret hx hb hr hlocks hP hS (rfl) (congrArg Prod.fst hG).symm (by rw [hG]) d_CR_hearOpen_138
      ·
        have hG := hG.trans (if_pos h_27)
        refine lv_iload_n hx hb d_CR_hearOpen_37 rfl (lv_at hl 1 rfl) ?_
        refine lv_iconst (v := 2) hx hb d_CR_hearOpen_38 (by decide) ?_
        refine lv_icmp_ne (tgt := 51) hx hb d_CR_hearOpen_39 (by decide) (fun _ => ?_) (fun h_36 => absurd h_36 (by rw [h_2]; decide))
        refine lv_iload_n hx hb d_CR_hearOpen_51 rfl (lv_at hl 1 rfl) ?_
        refine lv_iconst (v := 3) hx hb d_CR_hearOpen_52 (by decide) ?_
        refine lv_icmp_ne (tgt := 69) hx hb d_CR_hearOpen_53 (by decide) (fun _ => ?_) (fun h_37 => absurd h_37 (by rw [h_2]; decide))
        refine lv_iconst (v := 0) hx hb d_CR_hearOpen_69 (by decide) ?_
        refine lv_istore (lv' := [(4, .int 0), (0, .ref (ad q)), (1, .int x1), (2, .int x2), (3, .int x3)]) hx hb d_CR_hearOpen_70 hl (by decide) rfl (fun ls hl => ?_)
        refine lv_iload hx hb d_CR_hearOpen_72 (lv_at hl 0 rfl) ?_
        refine lv_if_ne (tgt := 79) hx hb d_CR_hearOpen_74 (by decide) (fun h_38 => absurd (by decide) h_38) (fun _ => ?_)
        refine lv_iconst (v := 0) hx hb d_CR_hearOpen_77 (by decide) ?_
        exact fl_zret hx hb hr hlocks hP hS (rfl) (congrArg Prod.fst hG).symm (by rw [hG]) d_CR_hearOpen_78
  ·
    have hG := hG.trans (if_pos h_1)
    refine lv_aload_n hx hb d_CR_hearOpen_16 rfl (lv_at hl 0 rfl) ?_
    refine lv_iconst (v := 5) hx hb d_CR_hearOpen_17 (by decide) ?_
    refine fl_callv (va_runV (As := [.int 5]) (rest := []) ⟨hx, hb, hml, hown, hts⟩ (c_CR_endWith l hi hq M (upd f 9 (12 * (f 0))) w 5) (kv_CR_endWith hts (hts _ (List.mem_cons_of_mem _ tw_470)) ⟨Nat.le_of_ble_eq_true rfl, Nat.le_of_ble_eq_true rfl⟩) (fl_preV hK hSt hN hS hP (lt_CR hq) (kc_CR hq) rfl) rfl rfl hl.1 rfl (lv_room (Nat.le_of_ble_eq_true rfl)) d_CR_hearOpen_18 ⟨Nat.zero_le _, Nat.zero_le _⟩) hS (fun H locs hP hS => ?_)
    refine lv_iconst (v := 0) hx hb d_CR_hearOpen_21 (by decide) ?_
    exact fl_zret hx hb hr hlocks hP hS (rfl) (congrArg Prod.fst hG).symm (by rw [hG]) d_CR_hearOpen_22
theorem z_CR_hearOpen (f : Nat → Int32) (w : Nat → Int32) (x1 : Int32) (x2 : Int32) (x3 : Int32) : (g_CR_hearOpen f w x1 x2 x3).1 &&& 1 = (g_CR_hearOpen f w x1 x2 x3).1 := by
  unfold g_CR_hearOpen
  repeat (first | split | with_reducible exact z_CR_takeData .. | with_reducible exact z_CR_takeEof .. | with_reducible exact z_CR_takeMetadata .. | (show (0 : Int32) &&& 1 = 0; rfl) | (show (1 : Int32) &&& 1 = 1; rfl) | rfl)
theorem hd_CR_hearOpen : y_CR_hearOpen.cls ≠ "java/lang/invoke/MethodHandle" ∧ y_CR_hearOpen.cls ≠ "java/lang/invoke/VarHandle" ∧ (parseMethodDescriptor y_CR_hearOpen.desc).map (fun d => d.parameters.length) = some 3 := by decide +kernel
theorem kv_CR_hearOpen {R : Room} {s : State} {args : Array Value} {c0 : Cond} {own : String} {index : Nat} (hts : ∀ w ∈ c0 :: gw, w.before args s = true) (hl : (Cond.methodLink own index y_CR_hearOpen).before args s = true) (hR : 2 + 1 ≤ R.frames ∧ 8 + (6 + 11) + 43 ≤ R.locals) : CallW R s args own "FarLink$CraftRecord" index y_CR_hearOpen b_CR_hearOpen 6 (some .boolean) w_CR_hearOpen ({ frames := 2, cells := 0, slots := 0, locals := 43 } : Room) 0 0 3 := ⟨callB_of 3 hts (gw_in tw_469) rfl rfl rfl (hts _ (List.mem_cons_of_mem _ tw_9)) hl hd_CR_hearOpen hR, hts _ (List.mem_cons_of_mem _ tw_468), hts _ (List.mem_cons_of_mem _ ps_CR_hearOpen)⟩
def g_CR_hear (f : Nat → Int32) (w : Nat → Int32) (x1 : Int32) (x2 : Int32) (x3 : Int32) : Int32 × (Nat → Int32) × (Nat → Int32) :=
  if (g_CR_looksAt f w x1) = 0 then ((0, f, w)) else (if (f 2) = 0 then (if x1 = 3 then (((g_CR_hearOpen (upd (upd f 2 1) 12 1) w x1 x2 x3).1, ((g_CR_hearOpen (upd (upd f 2 1) 12 1) w x1 x2 x3).2.1), ((g_CR_hearOpen (upd (upd f 2 1) 12 1) w x1 x2 x3).2.2))) else (if x1 = 4 then (((g_CR_hearOpen (upd (upd f 2 1) 12 1) w x1 x2 x3).1, ((g_CR_hearOpen (upd (upd f 2 1) 12 1) w x1 x2 x3).2.1), ((g_CR_hearOpen (upd (upd f 2 1) 12 1) w x1 x2 x3).2.2))) else (((g_CR_hearOpen (upd f 2 1) w x1 x2 x3).1, ((g_CR_hearOpen (upd f 2 1) w x1 x2 x3).2.1), ((g_CR_hearOpen (upd f 2 1) w x1 x2 x3).2.2))))) else (if x1 = 3 then (if (f 2) = 1 then (((g_CR_hearOpen (upd f 12 1) w x1 x2 x3).1, ((g_CR_hearOpen (upd f 12 1) w x1 x2 x3).2.1), ((g_CR_hearOpen (upd f 12 1) w x1 x2 x3).2.2))) else (if (f 2) = 2 then ((0, (upd f 12 1), w)) else ((0, (upd f 12 1), w)))) else (if x1 = 4 then (if (f 2) = 1 then (((g_CR_hearOpen (upd f 12 1) w x1 x2 x3).1, ((g_CR_hearOpen (upd f 12 1) w x1 x2 x3).2.1), ((g_CR_hearOpen (upd f 12 1) w x1 x2 x3).2.2))) else (if (f 2) = 2 then ((0, (upd f 12 1), w)) else ((0, (upd f 12 1), w)))) else (if (f 2) = 1 then (((g_CR_hearOpen f w x1 x2 x3).1, ((g_CR_hearOpen f w x1 x2 x3).2.1), ((g_CR_hearOpen f w x1 x2 x3).2.2))) else (if (f 2) = 2 then (if x1 = 5 then ((0, ((g_CR_becomeClosed f w).1), ((g_CR_becomeClosed f w).2))) else ((0, f, w))) else ((0, f, w)))))))
set_option maxHeartbeats 4000000 in
set_option maxRecDepth 100000 in
theorem c_CR_hear (l : Launch) {D : va_G} {ad : Nat → Nat} {cA : Nat → ClassId} {st : Nat → Nat} (hi : fl_inj ad 88) {q : Nat} (hq : is_CR q) (M : fl_M) (f : Nat → Int32) (w : Nat → Int32) (x1 : Int32) (x2 : Int32) (x3 : Int32) : Met l y_CR_hear w_CR_hear ({ frames := 3, cells := 0, slots := 0, locals := 68 } : Room) (va_Pc [.ref (ad q), .int x1, .int x2, .int x3] (fl_B D cls (xt cA) (xSL st) xFN xMN ad (xc ad cA) 88 (pCR M q f w))) (va_Qi (fun r M' => r = (g_CR_hear f w x1 x2 x3).1 ∧ M' = (pCR M q ((g_CR_hear f w x1 x2 x3).2.1) ((g_CR_hear f w x1 x2 x3).2.2))) (fl_E D cls ad (xc ad cA) 88) (fl_A ad 88)) 0 0 (fl_A ad 88) := by
  refine Met.ofW (cc := b_CR_hear) (maxL := 4) (ret := (some .boolean)) (by decide) rfl ?_
  intro p e s m args below meth c s₁ B hml hv
  obtain ⟨rfl, hP, hK, hSt, hN⟩ := hv
  have hx := B.exec
  have hb := B.bytes
  have hr := B.returns
  have hts := atoms_spec (ws := w_CR_hear) B.pre
  have hown : s.vm.findClass "FarLink$CraftRecord" = some m.cls := findClass_of_methodNamed B.named
  have hlocks := B.notSynchronized
  have hS : va_S (fl_A ad 88) s.heap s.heap [] := va_S.rf
  have hl := lv_entry ([.ref (ad q), .int x1, .int x2, .int x3]) (n := 4) (Nat.le_of_ble_eq_true rfl)
  rw [lg_entry_eq]
  generalize (lg_sl ([.ref (ad q), .int x1, .int x2, .int x3]) ++ List.replicate (4 - (lg_sl ([.ref (ad q), .int x1, .int x2, .int x3])).length) Slot.unset).toArray = ls at hl ⊢
  have hl : lv_has ls 4 [(0, .ref (ad q)), (1, .int x1), (2, .int x2), (3, .int x3)] := hl
  have hG := g_CR_hear.eq_1 f w x1 x2 x3
  refine lv_aload_n hx hb d_CR_hear_0 rfl (lv_at hl 0 rfl) ?_
  refine lv_iload_n hx hb d_CR_hear_1 rfl (lv_at hl 1 rfl) ?_
  refine fl_calli (va_runV (As := [.int x1]) (rest := []) ⟨hx, hb, hml, hown, hts⟩ (c_CR_looksAt l hi hq M f w x1) (kv_CR_looksAt hts (hts _ (List.mem_cons_of_mem _ tw_462)) ⟨Nat.le_of_ble_eq_true rfl, Nat.le_of_ble_eq_true rfl⟩) (fl_preV hK hSt hN hS hP (lt_CR hq) (kc_CR hq) rfl) rfl rfl hl.1 rfl (lv_room (Nat.le_of_ble_eq_true rfl)) d_CR_hear_2 ⟨Nat.zero_le _, Nat.zero_le _⟩) hS (fun H locs hP hS => ?_)
  refine lv_if_ne (tgt := 10) hx hb d_CR_hear_5 (by decide) (fun h_1 => ?_) (fun h_1 => ?_)
  ·
    have hG := hG.trans (if_neg h_1)
    refine lv_aload_n hx hb d_CR_hear_10 rfl (lv_at hl 0 rfl) ?_
    refine gt_CR (k := 2) (v := .int (f 2)) hx hb hts hown hK hP hq (hts _ (List.mem_cons_of_mem _ tw_219)) (by decide) rfl rfl d_CR_hear_11 ?_
    refine lv_if_ne (tgt := 22) hx hb d_CR_hear_14 (by decide) (fun h_2 => ?_) (fun h_2 => ?_)
    ·
      have hG := hG.trans (if_neg h_2)
      refine lv_iload_n hx hb d_CR_hear_22 rfl (lv_at hl 1 rfl) ?_
      refine lv_iconst (v := 3) hx hb d_CR_hear_23 (by decide) ?_
      refine lv_icmp_eq (tgt := 32) hx hb d_CR_hear_24 (by decide) (fun h_3 => ?_) (fun h_3 => ?_)
      ·
        have hG := hG.trans (if_pos h_3)
        refine lv_aload_n hx hb d_CR_hear_32 rfl (lv_at hl 0 rfl) ?_
        refine lv_iconst (v := 1) hx hb d_CR_hear_33 (by decide) ?_
        refine pt_CR (k := 12) hx hb hts hown hK hi hP hS hq (hts _ (List.mem_cons_of_mem _ tw_233)) (by decide) rfl rfl (rfl) (rfl) (Nat.le_of_ble_eq_true rfl) rfl d_CR_hear_34 (fun H locs hP hS => ?_)
        refine lv_aload_n hx hb d_CR_hear_37 rfl (lv_at hl 0 rfl) ?_
        refine gt_CR (k := 2) (v := .int (f 2)) hx hb hts hown hK hP hq (hts _ (List.mem_cons_of_mem _ tw_219)) (by decide) rfl rfl d_CR_hear_38 ?_
        refine lv_iconst (v := 1) hx hb d_CR_hear_41 (by decide) ?_
        refine lv_icmp_ne (tgt := 53) hx hb d_CR_hear_42 (by decide) (fun h_4 => ?_) (fun h_4 => ?_)
        ·
          have hG := hG.trans (if_neg h_4)
          refine lv_aload_n hx hb d_CR_hear_53 rfl (lv_at hl 0 rfl) ?_
          refine gt_CR (k := 2) (v := .int (f 2)) hx hb hts hown hK hP hq (hts _ (List.mem_cons_of_mem _ tw_219)) (by decide) rfl rfl d_CR_hear_54 ?_
          refine lv_iconst (v := 2) hx hb d_CR_hear_57 (by decide) ?_
          refine lv_icmp_ne (tgt := 70) hx hb d_CR_hear_58 (by decide) (fun h_5 => ?_) (fun h_5 => ?_)
          ·
            have hG := hG.trans (if_neg h_5)
            refine lv_iconst (v := 0) hx hb d_CR_hear_70 (by decide) ?_
            exact fl_zret hx hb hr hlocks hP hS (rfl) (congrArg Prod.fst hG).symm (by rw [hG]) d_CR_hear_71
          ·
            have hG := hG.trans (if_pos h_5)
            refine lv_iload_n hx hb d_CR_hear_61 rfl (lv_at hl 1 rfl) ?_
            refine lv_iconst (v := 5) hx hb d_CR_hear_62 (by decide) ?_
            refine lv_icmp_ne (tgt := 70) hx hb d_CR_hear_63 (by decide) (fun _ => ?_) (fun h_6 => absurd h_6 (by rw [h_3]; decide))
            refine lv_iconst (v := 0) hx hb d_CR_hear_70 (by decide) ?_
            exact fl_zret hx hb hr hlocks hP hS (rfl) (congrArg Prod.fst hG).symm (by rw [hG]) d_CR_hear_71
        ·
          have hG := hG.trans (if_pos h_4)
          refine lv_aload_n hx hb d_CR_hear_45 rfl (lv_at hl 0 rfl) ?_
          refine lv_iload_n hx hb d_CR_hear_46 rfl (lv_at hl 1 rfl) ?_
          refine lv_iload_n hx hb d_CR_hear_47 rfl (lv_at hl 2 rfl) ?_
          refine lv_iload_n hx hb d_CR_hear_48 rfl (lv_at hl 3 rfl) ?_
          refine fl_calli (va_runV (As := [.int x1, .int x2, .int x3]) (rest := []) ⟨hx, hb, hml, hown, hts⟩ (c_CR_hearOpen l hi hq M (upd f 12 1) w x1 x2 x3) (kv_CR_hearOpen hts (hts _ (List.mem_cons_of_mem _ tw_466)) ⟨Nat.le_of_ble_eq_true rfl, Nat.le_of_ble_eq_true rfl⟩) (fl_preV hK hSt hN hS hP (lt_CR hq) (kc_CR hq) rfl) rfl rfl hl.1 rfl (lv_room (Nat.le_of_ble_eq_true rfl)) d_CR_hear_49 ⟨Nat.zero_le _, Nat.zero_le _⟩) hS (fun H locs hP hS => ?_)
          exact fl_zret hx hb hr hlocks hP hS (z_CR_hearOpen ..) (congrArg Prod.fst hG).symm (by rw [hG]) d_CR_hear_52
      ·
        have hG := hG.trans (if_neg h_3)
        refine lv_iload_n hx hb d_CR_hear_27 rfl (lv_at hl 1 rfl) ?_
        refine lv_iconst (v := 4) hx hb d_CR_hear_28 (by decide) ?_
        refine lv_icmp_ne (tgt := 37) hx hb d_CR_hear_29 (by decide) (fun h_7 => ?_) (fun h_7 => ?_)
        ·
          have hG := hG.trans (if_neg h_7)
          refine lv_aload_n hx hb d_CR_hear_37 rfl (lv_at hl 0 rfl) ?_
          refine gt_CR (k := 2) (v := .int (f 2)) hx hb hts hown hK hP hq (hts _ (List.mem_cons_of_mem _ tw_219)) (by decide) rfl rfl d_CR_hear_38 ?_
          refine lv_iconst (v := 1) hx hb d_CR_hear_41 (by decide) ?_
          refine lv_icmp_ne (tgt := 53) hx hb d_CR_hear_42 (by decide) (fun h_8 => ?_) (fun h_8 => ?_)
          ·
            have hG := hG.trans (if_neg h_8)
            refine lv_aload_n hx hb d_CR_hear_53 rfl (lv_at hl 0 rfl) ?_
            refine gt_CR (k := 2) (v := .int (f 2)) hx hb hts hown hK hP hq (hts _ (List.mem_cons_of_mem _ tw_219)) (by decide) rfl rfl d_CR_hear_54 ?_
            refine lv_iconst (v := 2) hx hb d_CR_hear_57 (by decide) ?_
            refine lv_icmp_ne (tgt := 70) hx hb d_CR_hear_58 (by decide) (fun h_9 => ?_) (fun h_9 => ?_)
            ·
              have hG := hG.trans (if_neg h_9)
              refine lv_iconst (v := 0) hx hb d_CR_hear_70 (by decide) ?_
              exact fl_zret hx hb hr hlocks hP hS (rfl) (congrArg Prod.fst hG).symm (by rw [hG]) d_CR_hear_71
            ·
              have hG := hG.trans (if_pos h_9)
              refine lv_iload_n hx hb d_CR_hear_61 rfl (lv_at hl 1 rfl) ?_
              refine lv_iconst (v := 5) hx hb d_CR_hear_62 (by decide) ?_
              refine lv_icmp_ne (tgt := 70) hx hb d_CR_hear_63 (by decide) (fun h_10 => ?_) (fun h_10 => ?_)
              ·
                have hG := hG.trans (if_neg h_10)
                refine lv_iconst (v := 0) hx hb d_CR_hear_70 (by decide) ?_
                exact fl_zret hx hb hr hlocks hP hS (rfl) (congrArg Prod.fst hG).symm (by rw [hG]) d_CR_hear_71
              ·
                have hG := hG.trans (if_pos h_10)
                refine lv_aload_n hx hb d_CR_hear_66 rfl (lv_at hl 0 rfl) ?_
                refine fl_callv (va_runV (As := []) (rest := []) ⟨hx, hb, hml, hown, hts⟩ (c_CR_becomeClosed l hi hq M f w) (kv_CR_becomeClosed hts (hts _ (List.mem_cons_of_mem _ tw_515)) ⟨Nat.le_of_ble_eq_true rfl, Nat.le_of_ble_eq_true rfl⟩) (fl_preV hK hSt hN hS hP (lt_CR hq) (kc_CR hq) rfl) rfl rfl hl.1 rfl (lv_room (Nat.le_of_ble_eq_true rfl)) d_CR_hear_67 ⟨Nat.zero_le _, Nat.zero_le _⟩) hS (fun H locs hP hS => ?_)
                refine lv_iconst (v := 0) hx hb d_CR_hear_70 (by decide) ?_
                exact fl_zret hx hb hr hlocks hP hS (rfl) (congrArg Prod.fst hG).symm (by rw [hG]) d_CR_hear_71
          ·
            have hG := hG.trans (if_pos h_8)
            refine lv_aload_n hx hb d_CR_hear_45 rfl (lv_at hl 0 rfl) ?_
            refine lv_iload_n hx hb d_CR_hear_46 rfl (lv_at hl 1 rfl) ?_
            refine lv_iload_n hx hb d_CR_hear_47 rfl (lv_at hl 2 rfl) ?_
            refine lv_iload_n hx hb d_CR_hear_48 rfl (lv_at hl 3 rfl) ?_
            refine fl_calli (va_runV (As := [.int x1, .int x2, .int x3]) (rest := []) ⟨hx, hb, hml, hown, hts⟩ (c_CR_hearOpen l hi hq M f w x1 x2 x3) (kv_CR_hearOpen hts (hts _ (List.mem_cons_of_mem _ tw_466)) ⟨Nat.le_of_ble_eq_true rfl, Nat.le_of_ble_eq_true rfl⟩) (fl_preV hK hSt hN hS hP (lt_CR hq) (kc_CR hq) rfl) rfl rfl hl.1 rfl (lv_room (Nat.le_of_ble_eq_true rfl)) d_CR_hear_49 ⟨Nat.zero_le _, Nat.zero_le _⟩) hS (fun H locs hP hS => ?_)
            exact fl_zret hx hb hr hlocks hP hS (z_CR_hearOpen ..) (congrArg Prod.fst hG).symm (by rw [hG]) d_CR_hear_52
        ·
          have hG := hG.trans (if_pos h_7)
          refine lv_aload_n hx hb d_CR_hear_32 rfl (lv_at hl 0 rfl) ?_
          refine lv_iconst (v := 1) hx hb d_CR_hear_33 (by decide) ?_
          refine pt_CR (k := 12) hx hb hts hown hK hi hP hS hq (hts _ (List.mem_cons_of_mem _ tw_233)) (by decide) rfl rfl (rfl) (rfl) (Nat.le_of_ble_eq_true rfl) rfl d_CR_hear_34 (fun H locs hP hS => ?_)
          refine lv_aload_n hx hb d_CR_hear_37 rfl (lv_at hl 0 rfl) ?_
          refine gt_CR (k := 2) (v := .int (f 2)) hx hb hts hown hK hP hq (hts _ (List.mem_cons_of_mem _ tw_219)) (by decide) rfl rfl d_CR_hear_38 ?_
          refine lv_iconst (v := 1) hx hb d_CR_hear_41 (by decide) ?_
          refine lv_icmp_ne (tgt := 53) hx hb d_CR_hear_42 (by decide) (fun h_11 => ?_) (fun h_11 => ?_)
          ·
            have hG := hG.trans (if_neg h_11)
            refine lv_aload_n hx hb d_CR_hear_53 rfl (lv_at hl 0 rfl) ?_
            refine gt_CR (k := 2) (v := .int (f 2)) hx hb hts hown hK hP hq (hts _ (List.mem_cons_of_mem _ tw_219)) (by decide) rfl rfl d_CR_hear_54 ?_
            refine lv_iconst (v := 2) hx hb d_CR_hear_57 (by decide) ?_
            refine lv_icmp_ne (tgt := 70) hx hb d_CR_hear_58 (by decide) (fun h_12 => ?_) (fun h_12 => ?_)
            ·
              have hG := hG.trans (if_neg h_12)
              refine lv_iconst (v := 0) hx hb d_CR_hear_70 (by decide) ?_
              exact fl_zret hx hb hr hlocks hP hS (rfl) (congrArg Prod.fst hG).symm (by rw [hG]) d_CR_hear_71
            ·
              have hG := hG.trans (if_pos h_12)
              refine lv_iload_n hx hb d_CR_hear_61 rfl (lv_at hl 1 rfl) ?_
              refine lv_iconst (v := 5) hx hb d_CR_hear_62 (by decide) ?_
              refine lv_icmp_ne (tgt := 70) hx hb d_CR_hear_63 (by decide) (fun _ => ?_) (fun h_13 => absurd h_13 (by rw [h_7]; decide))
              refine lv_iconst (v := 0) hx hb d_CR_hear_70 (by decide) ?_
              exact fl_zret hx hb hr hlocks hP hS (rfl) (congrArg Prod.fst hG).symm (by rw [hG]) d_CR_hear_71
          ·
            have hG := hG.trans (if_pos h_11)
            refine lv_aload_n hx hb d_CR_hear_45 rfl (lv_at hl 0 rfl) ?_
            refine lv_iload_n hx hb d_CR_hear_46 rfl (lv_at hl 1 rfl) ?_
            refine lv_iload_n hx hb d_CR_hear_47 rfl (lv_at hl 2 rfl) ?_
            refine lv_iload_n hx hb d_CR_hear_48 rfl (lv_at hl 3 rfl) ?_
            refine fl_calli (va_runV (As := [.int x1, .int x2, .int x3]) (rest := []) ⟨hx, hb, hml, hown, hts⟩ (c_CR_hearOpen l hi hq M (upd f 12 1) w x1 x2 x3) (kv_CR_hearOpen hts (hts _ (List.mem_cons_of_mem _ tw_466)) ⟨Nat.le_of_ble_eq_true rfl, Nat.le_of_ble_eq_true rfl⟩) (fl_preV hK hSt hN hS hP (lt_CR hq) (kc_CR hq) rfl) rfl rfl hl.1 rfl (lv_room (Nat.le_of_ble_eq_true rfl)) d_CR_hear_49 ⟨Nat.zero_le _, Nat.zero_le _⟩) hS (fun H locs hP hS => ?_)
            exact fl_zret hx hb hr hlocks hP hS (z_CR_hearOpen ..) (congrArg Prod.fst hG).symm (by rw [hG]) d_CR_hear_52
    ·
      have hG := hG.trans (if_pos h_2)
      refine lv_aload_n hx hb d_CR_hear_17 rfl (lv_at hl 0 rfl) ?_
      refine lv_iconst (v := 1) hx hb d_CR_hear_18 (by decide) ?_
      refine pt_CR (k := 2) hx hb hts hown hK hi hP hS hq (hts _ (List.mem_cons_of_mem _ tw_219)) (by decide) rfl rfl rfl rfl (Nat.le_of_ble_eq_true rfl) rfl d_CR_hear_19 (fun H locs hP hS => ?_)
      refine lv_iload_n hx hb d_CR_hear_22 rfl (lv_at hl 1 rfl) ?_
      refine lv_iconst (v := 3) hx hb d_CR_hear_23 (by decide) ?_
      refine lv_icmp_eq (tgt := 32) hx hb d_CR_hear_24 (by decide) (fun h_14 => ?_) (fun h_14 => ?_)
      ·
        have hG := hG.trans (if_pos h_14)
        refine lv_aload_n hx hb d_CR_hear_32 rfl (lv_at hl 0 rfl) ?_
        refine lv_iconst (v := 1) hx hb d_CR_hear_33 (by decide) ?_
        refine pt_CR (k := 12) hx hb hts hown hK hi hP hS hq (hts _ (List.mem_cons_of_mem _ tw_233)) (by decide) rfl rfl (rfl) (rfl) (Nat.le_of_ble_eq_true rfl) rfl d_CR_hear_34 (fun H locs hP hS => ?_)
        refine lv_aload_n hx hb d_CR_hear_37 rfl (lv_at hl 0 rfl) ?_
        refine gt_CR (k := 2) (v := .int 1) hx hb hts hown hK hP hq (hts _ (List.mem_cons_of_mem _ tw_219)) (by decide) rfl rfl d_CR_hear_38 ?_
        refine lv_iconst (v := 1) hx hb d_CR_hear_41 (by decide) ?_
        refine lv_icmp_ne (tgt := 53) hx hb d_CR_hear_42 (by decide) (fun h_15 => absurd (by decide) h_15) (fun _ => ?_)
        refine lv_aload_n hx hb d_CR_hear_45 rfl (lv_at hl 0 rfl) ?_
        refine lv_iload_n hx hb d_CR_hear_46 rfl (lv_at hl 1 rfl) ?_
        refine lv_iload_n hx hb d_CR_hear_47 rfl (lv_at hl 2 rfl) ?_
        refine lv_iload_n hx hb d_CR_hear_48 rfl (lv_at hl 3 rfl) ?_
        refine fl_calli (va_runV (As := [.int x1, .int x2, .int x3]) (rest := []) ⟨hx, hb, hml, hown, hts⟩ (c_CR_hearOpen l hi hq M (upd (upd f 2 1) 12 1) w x1 x2 x3) (kv_CR_hearOpen hts (hts _ (List.mem_cons_of_mem _ tw_466)) ⟨Nat.le_of_ble_eq_true rfl, Nat.le_of_ble_eq_true rfl⟩) (fl_preV hK hSt hN hS hP (lt_CR hq) (kc_CR hq) rfl) rfl rfl hl.1 rfl (lv_room (Nat.le_of_ble_eq_true rfl)) d_CR_hear_49 ⟨Nat.zero_le _, Nat.zero_le _⟩) hS (fun H locs hP hS => ?_)
        exact fl_zret hx hb hr hlocks hP hS (z_CR_hearOpen ..) (congrArg Prod.fst hG).symm (by rw [hG]) d_CR_hear_52
      ·
        have hG := hG.trans (if_neg h_14)
        refine lv_iload_n hx hb d_CR_hear_27 rfl (lv_at hl 1 rfl) ?_
        refine lv_iconst (v := 4) hx hb d_CR_hear_28 (by decide) ?_
        refine lv_icmp_ne (tgt := 37) hx hb d_CR_hear_29 (by decide) (fun h_16 => ?_) (fun h_16 => ?_)
        ·
          have hG := hG.trans (if_neg h_16)
          refine lv_aload_n hx hb d_CR_hear_37 rfl (lv_at hl 0 rfl) ?_
          refine gt_CR (k := 2) (v := .int 1) hx hb hts hown hK hP hq (hts _ (List.mem_cons_of_mem _ tw_219)) (by decide) rfl rfl d_CR_hear_38 ?_
          refine lv_iconst (v := 1) hx hb d_CR_hear_41 (by decide) ?_
          refine lv_icmp_ne (tgt := 53) hx hb d_CR_hear_42 (by decide) (fun h_17 => absurd (by decide) h_17) (fun _ => ?_)
          refine lv_aload_n hx hb d_CR_hear_45 rfl (lv_at hl 0 rfl) ?_
          refine lv_iload_n hx hb d_CR_hear_46 rfl (lv_at hl 1 rfl) ?_
          refine lv_iload_n hx hb d_CR_hear_47 rfl (lv_at hl 2 rfl) ?_
          refine lv_iload_n hx hb d_CR_hear_48 rfl (lv_at hl 3 rfl) ?_
          refine fl_calli (va_runV (As := [.int x1, .int x2, .int x3]) (rest := []) ⟨hx, hb, hml, hown, hts⟩ (c_CR_hearOpen l hi hq M (upd f 2 1) w x1 x2 x3) (kv_CR_hearOpen hts (hts _ (List.mem_cons_of_mem _ tw_466)) ⟨Nat.le_of_ble_eq_true rfl, Nat.le_of_ble_eq_true rfl⟩) (fl_preV hK hSt hN hS hP (lt_CR hq) (kc_CR hq) rfl) rfl rfl hl.1 rfl (lv_room (Nat.le_of_ble_eq_true rfl)) d_CR_hear_49 ⟨Nat.zero_le _, Nat.zero_le _⟩) hS (fun H locs hP hS => ?_)
          exact fl_zret hx hb hr hlocks hP hS (z_CR_hearOpen ..) (congrArg Prod.fst hG).symm (by rw [hG]) d_CR_hear_52
        ·
          have hG := hG.trans (if_pos h_16)
          refine lv_aload_n hx hb d_CR_hear_32 rfl (lv_at hl 0 rfl) ?_
          refine lv_iconst (v := 1) hx hb d_CR_hear_33 (by decide) ?_
          refine pt_CR (k := 12) hx hb hts hown hK hi hP hS hq (hts _ (List.mem_cons_of_mem _ tw_233)) (by decide) rfl rfl (rfl) (rfl) (Nat.le_of_ble_eq_true rfl) rfl d_CR_hear_34 (fun H locs hP hS => ?_)
          refine lv_aload_n hx hb d_CR_hear_37 rfl (lv_at hl 0 rfl) ?_
          refine gt_CR (k := 2) (v := .int 1) hx hb hts hown hK hP hq (hts _ (List.mem_cons_of_mem _ tw_219)) (by decide) rfl rfl d_CR_hear_38 ?_
          refine lv_iconst (v := 1) hx hb d_CR_hear_41 (by decide) ?_
          refine lv_icmp_ne (tgt := 53) hx hb d_CR_hear_42 (by decide) (fun h_18 => absurd (by decide) h_18) (fun _ => ?_)
          refine lv_aload_n hx hb d_CR_hear_45 rfl (lv_at hl 0 rfl) ?_
          refine lv_iload_n hx hb d_CR_hear_46 rfl (lv_at hl 1 rfl) ?_
          refine lv_iload_n hx hb d_CR_hear_47 rfl (lv_at hl 2 rfl) ?_
          refine lv_iload_n hx hb d_CR_hear_48 rfl (lv_at hl 3 rfl) ?_
          refine fl_calli (va_runV (As := [.int x1, .int x2, .int x3]) (rest := []) ⟨hx, hb, hml, hown, hts⟩ (c_CR_hearOpen l hi hq M (upd (upd f 2 1) 12 1) w x1 x2 x3) (kv_CR_hearOpen hts (hts _ (List.mem_cons_of_mem _ tw_466)) ⟨Nat.le_of_ble_eq_true rfl, Nat.le_of_ble_eq_true rfl⟩) (fl_preV hK hSt hN hS hP (lt_CR hq) (kc_CR hq) rfl) rfl rfl hl.1 rfl (lv_room (Nat.le_of_ble_eq_true rfl)) d_CR_hear_49 ⟨Nat.zero_le _, Nat.zero_le _⟩) hS (fun H locs hP hS => ?_)
          exact fl_zret hx hb hr hlocks hP hS (z_CR_hearOpen ..) (congrArg Prod.fst hG).symm (by rw [hG]) d_CR_hear_52
  ·
    have hG := hG.trans (if_pos h_1)
    refine lv_iconst (v := 0) hx hb d_CR_hear_8 (by decide) ?_
    exact fl_zret hx hb hr hlocks hP hS (rfl) (congrArg Prod.fst hG).symm (by rw [hG]) d_CR_hear_9
theorem z_CR_hear (f : Nat → Int32) (w : Nat → Int32) (x1 : Int32) (x2 : Int32) (x3 : Int32) : (g_CR_hear f w x1 x2 x3).1 &&& 1 = (g_CR_hear f w x1 x2 x3).1 := by
  unfold g_CR_hear
  repeat (first | split | with_reducible exact z_CR_hearOpen .. | with_reducible exact z_CR_looksAt .. | (show (0 : Int32) &&& 1 = 0; rfl) | (show (1 : Int32) &&& 1 = 1; rfl) | rfl)
theorem hd_CR_hear : y_CR_hear.cls ≠ "java/lang/invoke/MethodHandle" ∧ y_CR_hear.cls ≠ "java/lang/invoke/VarHandle" ∧ (parseMethodDescriptor y_CR_hear.desc).map (fun d => d.parameters.length) = some 3 := by decide +kernel
theorem kv_CR_hear {R : Room} {s : State} {args : Array Value} {c0 : Cond} {own : String} {index : Nat} (hts : ∀ w ∈ c0 :: gw, w.before args s = true) (hl : (Cond.methodLink own index y_CR_hear).before args s = true) (hR : 3 + 1 ≤ R.frames ∧ 8 + (4 + 11) + 68 ≤ R.locals) : CallW R s args own "FarLink$CraftRecord" index y_CR_hear b_CR_hear 4 (some .boolean) w_CR_hear ({ frames := 3, cells := 0, slots := 0, locals := 68 } : Room) 0 0 3 := ⟨callB_of 3 hts (gw_in tw_461) rfl rfl rfl (hts _ (List.mem_cons_of_mem _ tw_9)) hl hd_CR_hear hR, hts _ (List.mem_cons_of_mem _ tw_459), hts _ (List.mem_cons_of_mem _ tw_460)⟩
