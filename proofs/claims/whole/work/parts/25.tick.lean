/-! contracts: 25.tick -/
def hg_WY_hear (M : fl_M) (q : Nat) (x1 : Int32) : Int64 × fl_M := ((g_WY_hear (M.1 q) (M.2 q) (M.2 (q + 1)) x1).1, pWY M q ((g_WY_hear (M.1 q) (M.2 q) (M.2 (q + 1)) x1).2.1) ((g_WY_hear (M.1 q) (M.2 q) (M.2 (q + 1)) x1).2.2.1) ((g_WY_hear (M.1 q) (M.2 q) (M.2 (q + 1)) x1).2.2.2))
def tk_a (M : fl_M) : fl_M := (hg_WY_hear (fl_i M 0 5 ((M.1 0 5) + 1)) 6 ((fl_i M 0 5 ((M.1 0 5) + 1)).1 0 5)).2
def tk_av (M : fl_M) : Int64 := (g_WY_hear ((fl_i M 0 5 ((M.1 0 5) + 1)).1 6) ((fl_i M 0 5 ((M.1 0 5) + 1)).2 6) ((fl_i M 0 5 ((M.1 0 5) + 1)).2 (6 + 1)) ((fl_i M 0 5 ((M.1 0 5) + 1)).1 0 5)).1
def tk_b (M : fl_M) : fl_M := (g_CT_hear (tk_a M) (tk_av M))
def tk_c (M : fl_M) : fl_M := (g_CT_stepClocks (tk_b M))
def tk_d (M : fl_M) : fl_M := (g_CT_nextInfo (tk_c M)).2
def tk_dv (M : fl_M) : Int64 := (g_CT_nextInfo (tk_c M)).1
def hg_WY_send (M : fl_M) (q : Nat) (x1 : Int32) (x2 : Int64) : fl_M := pWY M q ((g_WY_send (M.1 q) (M.2 q) (M.2 (q + 1)) x1 x2).1) ((g_WY_send (M.1 q) (M.2 q) (M.2 (q + 1)) x1 x2).2.1) ((g_WY_send (M.1 q) (M.2 q) (M.2 (q + 1)) x1 x2).2.2)
def tk_e (M : fl_M) : fl_M := (hg_WY_send (tk_d M) 8 ((tk_c M).1 0 5) (tk_dv M))
def tk_f (M : fl_M) : fl_M := (hg_WY_hear (tk_e M) 8 ((tk_e M).1 0 5)).2
def tk_fv (M : fl_M) : Int64 := (g_WY_hear ((tk_e M).1 8) ((tk_e M).2 8) ((tk_e M).2 (8 + 1)) ((tk_e M).1 0 5)).1
def tk_g (M : fl_M) : fl_M := (g_GR_hear (tk_f M) (tk_fv M))
def tk_h (M : fl_M) : fl_M := (g_GR_stepClocks (tk_g M))
def tk_i (M : fl_M) : fl_M := (g_GR_nextInfo (tk_h M)).2
def tk_iv (M : fl_M) : Int64 := (g_GR_nextInfo (tk_h M)).1
def g_FL_tick (M : fl_M) : fl_M :=
  if (lg_cmp (tk_iv M) (-1)) = 0 then ((tk_i M)) else ((hg_WY_send (tk_i M) 6 ((tk_i M).1 0 5) (tk_iv M)))
set_option maxHeartbeats 4000000 in
set_option maxRecDepth 100000 in
theorem c_FL_tick (l : Launch) {D : va_G} {ad : Nat → Nat} {cA : Nat → ClassId} {st : Nat → Nat} (hi : fl_inj ad 88) (M : fl_M) (hT0 : KP (tk_a M)) (hT1 : nn ((tk_g M).1 11 5)) (hT2 : nn ((tk_g M).1 10 2)) (hT3 : ((tk_g M).1 10 2).toNatClampNeg ≤ 16) (hT4 : nn ((tk_h M).1 11 5)) (hT5 : vp_in ((tk_h M).1 11 4) 16) (hT6 : nn ((tk_h M).1 10 2)) (hT7 : ((tk_h M).1 10 2).toNatClampNeg ≤ 16) : Met l y_FL_tick w_FL_tick ({ frames := 5, cells := 0, slots := 0, locals := 128 } : Room) (va_Pc [.ref (ad 0)] (fl_B D cls (xt cA) (xSL st) xFN xMN ad (xc ad cA) 88 M)) (va_Qv (fun M' => M' = (g_FL_tick M)) (fl_E D cls ad (xc ad cA) 88) (fl_A ad 88)) 0 0 (fl_A ad 88) := by
  refine Met.ofW (cc := b_FL_tick) (maxL := 3) (ret := none) (by decide) rfl ?_
  intro p e s m args below meth c s₁ B hml hv
  obtain ⟨rfl, hP, hK, hSt, hN⟩ := hv
  have hx := B.exec
  have hb := B.bytes
  have hr := B.returns
  have hts := atoms_spec (ws := w_FL_tick) B.pre
  have hown : s.vm.findClass "FarLink" = some m.cls := findClass_of_methodNamed B.named
  have hlocks := B.notSynchronized
  have hS : va_S (fl_A ad 88) s.heap s.heap [] := va_S.rf
  have hl := lv_entry ([.ref (ad 0)]) (n := 3) (Nat.le_of_ble_eq_true rfl)
  rw [lg_entry_eq]
  generalize (lg_sl ([.ref (ad 0)]) ++ List.replicate (3 - (lg_sl ([.ref (ad 0)])).length) Slot.unset).toArray = ls at hl ⊢
  have hl : lv_has ls 3 [(0, .ref (ad 0))] := hl
  have hG := g_FL_tick.eq_1 M
  refine lv_aload_n hx hb d_FL_tick_0 rfl (lv_at hl 0 rfl) ?_
  refine lv_dup hx hb d_FL_tick_1 rfl ?_
  refine gg_FL (k := 5) (v := .int (M.1 0 5)) hx hb hts hown hK hP  (hts _ (List.mem_cons_of_mem _ tw_287)) (by decide) rfl rfl d_FL_tick_2 ?_
  refine lv_iconst (v := 1) hx hb d_FL_tick_5 (by decide) ?_
  refine lv_iadd hx hb d_FL_tick_6 ?_
  refine pg_FL (k := 5) hx hb hts hown hK hi hP hS  (hts _ (List.mem_cons_of_mem _ tw_287)) (by decide) rfl rfl rfl rfl (Nat.le_of_ble_eq_true rfl) rfl d_FL_tick_7 (fun H locs hP hS => ?_)
  refine lv_aload_n hx hb d_FL_tick_10 rfl (lv_at hl 0 rfl) ?_
  refine gg_FL (k := 4) (v := .ref (ad 15)) hx hb hts hown hK hP  (hts _ (List.mem_cons_of_mem _ tw_286)) (by decide) rfl rfl d_FL_tick_11 ?_
  refine lv_aload_n hx hb d_FL_tick_14 rfl (lv_at hl 0 rfl) ?_
  refine gg_FL (k := 1) (v := .ref (ad 6)) hx hb hts hown hK hP  (hts _ (List.mem_cons_of_mem _ tw_283)) (by decide) rfl rfl d_FL_tick_15 ?_
  refine lv_aload_n hx hb d_FL_tick_18 rfl (lv_at hl 0 rfl) ?_
  refine gg_FL (k := 5) (v := .int ((fl_i M 0 5 ((M.1 0 5) + 1)).1 0 5)) hx hb hts hown hK hP  (hts _ (List.mem_cons_of_mem _ tw_287)) (by decide) rfl rfl d_FL_tick_19 ?_
  have hP : va_P D cls (fl_w ad (xc ad cA) 88 (pWY (fl_i M 0 5 ((M.1 0 5) + 1)) 6 ((fl_i M 0 5 ((M.1 0 5) + 1)).1 6) ((fl_i M 0 5 ((M.1 0 5) + 1)).2 6) ((fl_i M 0 5 ((M.1 0 5) + 1)).2 (6 + 1)))) H := by rw [id_WY]; exact hP
  refine fl_calll (va_runV (As := [.int ((fl_i M 0 5 ((M.1 0 5) + 1)).1 0 5)]) (rest := [.ref (ad 15)]) ⟨hx, hb, hml, hown, hts⟩ (c_WY_hear l hi (Or.inl rfl) (fl_i M 0 5 ((M.1 0 5) + 1)) ((fl_i M 0 5 ((M.1 0 5) + 1)).1 6) ((fl_i M 0 5 ((M.1 0 5) + 1)).2 6) ((fl_i M 0 5 ((M.1 0 5) + 1)).2 (6 + 1)) ((fl_i M 0 5 ((M.1 0 5) + 1)).1 0 5)) (kv_WY_hear hts (hts _ (List.mem_cons_of_mem _ tw_383)) ⟨Nat.le_of_ble_eq_true rfl, Nat.le_of_ble_eq_true rfl⟩) (fl_preV hK hSt hN hS hP (lt_WY (Or.inl rfl)) (kc_WY (Or.inl rfl)) rfl) rfl rfl hl.1 rfl (lv_room (Nat.le_of_ble_eq_true rfl)) d_FL_tick_22 ⟨Nat.zero_le _, Nat.zero_le _⟩) hS (fun H locs hP hS => ?_)
  have hP : va_P D cls (fl_w ad (xc ad cA) 88 (hg_WY_hear (fl_i M 0 5 ((M.1 0 5) + 1)) 6 ((fl_i M 0 5 ((M.1 0 5) + 1)).1 0 5)).2) H := hP
  have hP : va_P D cls (fl_w ad (xc ad cA) 88 (tk_a M)) H := hP
  refine W.eq (g2 := F0 m 25 ls [.long (tk_av M), .ref (ad 15)]) rfl ?_
  refine fl_callv (va_runV (As := [.long (tk_av M)]) (rest := []) ⟨hx, hb, hml, hown, hts⟩ (c_CT_hear l hi (tk_a M) (tk_av M) hT0) (kv_CT_hear hts (hts _ (List.mem_cons_of_mem _ tw_444)) ⟨Nat.le_of_ble_eq_true rfl, Nat.le_of_ble_eq_true rfl⟩) (fl_preV hK hSt hN hS hP (by decide) (kg_CT) rfl) rfl rfl hl.1 rfl (lv_room (Nat.le_of_ble_eq_true rfl)) d_FL_tick_25 ⟨Nat.zero_le _, Nat.zero_le _⟩) hS (fun H locs hP hS => ?_)
  have hP : va_P D cls (fl_w ad (xc ad cA) 88 (tk_b M)) H := hP
  refine lv_aload_n hx hb d_FL_tick_28 rfl (lv_at hl 0 rfl) ?_
  refine gg_FL (k := 4) (v := .ref (ad 15)) hx hb hts hown hK hP  (hts _ (List.mem_cons_of_mem _ tw_286)) (by decide) rfl rfl d_FL_tick_29 ?_
  refine fl_callv (va_runV (As := []) (rest := []) ⟨hx, hb, hml, hown, hts⟩ (c_CT_stepClocks l hi (tk_b M)) (kv_CT_stepClocks hts (hts _ (List.mem_cons_of_mem _ tw_523)) ⟨Nat.le_of_ble_eq_true rfl, Nat.le_of_ble_eq_true rfl⟩) (fl_preV hK hSt hN hS hP (by decide) (kg_CT) rfl) rfl rfl hl.1 rfl (lv_room (Nat.le_of_ble_eq_true rfl)) d_FL_tick_32 ⟨Nat.zero_le _, Nat.zero_le _⟩) hS (fun H locs hP hS => ?_)
  have hP : va_P D cls (fl_w ad (xc ad cA) 88 (tk_c M)) H := hP
  refine lv_aload_n hx hb d_FL_tick_35 rfl (lv_at hl 0 rfl) ?_
  refine gg_FL (k := 2) (v := .ref (ad 8)) hx hb hts hown hK hP  (hts _ (List.mem_cons_of_mem _ tw_284)) (by decide) rfl rfl d_FL_tick_36 ?_
  refine lv_aload_n hx hb d_FL_tick_39 rfl (lv_at hl 0 rfl) ?_
  refine gg_FL (k := 5) (v := .int ((tk_c M).1 0 5)) hx hb hts hown hK hP  (hts _ (List.mem_cons_of_mem _ tw_287)) (by decide) rfl rfl d_FL_tick_40 ?_
  refine lv_aload_n hx hb d_FL_tick_43 rfl (lv_at hl 0 rfl) ?_
  refine gg_FL (k := 4) (v := .ref (ad 15)) hx hb hts hown hK hP  (hts _ (List.mem_cons_of_mem _ tw_286)) (by decide) rfl rfl d_FL_tick_44 ?_
  refine fl_calll (va_runV (As := []) (rest := [.int ((tk_c M).1 0 5), .ref (ad 8)]) ⟨hx, hb, hml, hown, hts⟩ (c_CT_nextInfo l hi (tk_c M)) (kv_CT_nextInfo hts (hts _ (List.mem_cons_of_mem _ tw_539)) ⟨Nat.le_of_ble_eq_true rfl, Nat.le_of_ble_eq_true rfl⟩) (fl_preV hK hSt hN hS hP (by decide) (kg_CT) rfl) rfl rfl hl.1 rfl (lv_room (Nat.le_of_ble_eq_true rfl)) d_FL_tick_47 ⟨Nat.zero_le _, Nat.zero_le _⟩) hS (fun H locs hP hS => ?_)
  have hP : va_P D cls (fl_w ad (xc ad cA) 88 (tk_d M)) H := hP
  refine W.eq (g2 := F0 m 50 ls [.long (tk_dv M), .int ((tk_c M).1 0 5), .ref (ad 8)]) rfl ?_
  have hP : va_P D cls (fl_w ad (xc ad cA) 88 (pWY (tk_d M) 8 ((tk_d M).1 8) ((tk_d M).2 8) ((tk_d M).2 (8 + 1)))) H := by rw [id_WY]; exact hP
  refine fl_callv (va_runV (As := [.int ((tk_c M).1 0 5), .long (tk_dv M)]) (rest := []) ⟨hx, hb, hml, hown, hts⟩ (c_WY_send l hi (Or.inr rfl) (tk_d M) ((tk_d M).1 8) ((tk_d M).2 8) ((tk_d M).2 (8 + 1)) ((tk_c M).1 0 5) (tk_dv M)) (kv_WY_send hts (hts _ (List.mem_cons_of_mem _ tw_558)) ⟨Nat.le_of_ble_eq_true rfl, Nat.le_of_ble_eq_true rfl⟩) (fl_preV hK hSt hN hS hP (lt_WY (Or.inr rfl)) (kc_WY (Or.inr rfl)) rfl) rfl rfl hl.1 rfl (lv_room (Nat.le_of_ble_eq_true rfl)) d_FL_tick_50 ⟨Nat.zero_le _, Nat.zero_le _⟩) hS (fun H locs hP hS => ?_)
  have hP : va_P D cls (fl_w ad (xc ad cA) 88 (hg_WY_send (tk_d M) 8 ((tk_c M).1 0 5) (tk_dv M))) H := hP
  have hP : va_P D cls (fl_w ad (xc ad cA) 88 (tk_e M)) H := hP
  refine lv_aload_n hx hb d_FL_tick_53 rfl (lv_at hl 0 rfl) ?_
  refine gg_FL (k := 3) (v := .ref (ad 10)) hx hb hts hown hK hP  (hts _ (List.mem_cons_of_mem _ tw_285)) (by decide) rfl rfl d_FL_tick_54 ?_
  refine lv_aload_n hx hb d_FL_tick_57 rfl (lv_at hl 0 rfl) ?_
  refine gg_FL (k := 2) (v := .ref (ad 8)) hx hb hts hown hK hP  (hts _ (List.mem_cons_of_mem _ tw_284)) (by decide) rfl rfl d_FL_tick_58 ?_
  refine lv_aload_n hx hb d_FL_tick_61 rfl (lv_at hl 0 rfl) ?_
  refine gg_FL (k := 5) (v := .int ((tk_e M).1 0 5)) hx hb hts hown hK hP  (hts _ (List.mem_cons_of_mem _ tw_287)) (by decide) rfl rfl d_FL_tick_62 ?_
  have hP : va_P D cls (fl_w ad (xc ad cA) 88 (pWY (tk_e M) 8 ((tk_e M).1 8) ((tk_e M).2 8) ((tk_e M).2 (8 + 1)))) H := by rw [id_WY]; exact hP
  refine fl_calll (va_runV (As := [.int ((tk_e M).1 0 5)]) (rest := [.ref (ad 10)]) ⟨hx, hb, hml, hown, hts⟩ (c_WY_hear l hi (Or.inr rfl) (tk_e M) ((tk_e M).1 8) ((tk_e M).2 8) ((tk_e M).2 (8 + 1)) ((tk_e M).1 0 5)) (kv_WY_hear hts (hts _ (List.mem_cons_of_mem _ tw_383)) ⟨Nat.le_of_ble_eq_true rfl, Nat.le_of_ble_eq_true rfl⟩) (fl_preV hK hSt hN hS hP (lt_WY (Or.inr rfl)) (kc_WY (Or.inr rfl)) rfl) rfl rfl hl.1 rfl (lv_room (Nat.le_of_ble_eq_true rfl)) d_FL_tick_65 ⟨Nat.zero_le _, Nat.zero_le _⟩) hS (fun H locs hP hS => ?_)
  have hP : va_P D cls (fl_w ad (xc ad cA) 88 (hg_WY_hear (tk_e M) 8 ((tk_e M).1 0 5)).2) H := hP
  have hP : va_P D cls (fl_w ad (xc ad cA) 88 (tk_f M)) H := hP
  refine W.eq (g2 := F0 m 68 ls [.long (tk_fv M), .ref (ad 10)]) rfl ?_
  refine fl_callv (va_runV (As := [.long (tk_fv M)]) (rest := []) ⟨hx, hb, hml, hown, hts⟩ (c_GR_hear l hi (tk_f M) (tk_fv M)) (kv_GR_hear hts (hts _ (List.mem_cons_of_mem _ tw_568)) ⟨Nat.le_of_ble_eq_true rfl, Nat.le_of_ble_eq_true rfl⟩) (fl_preV hK hSt hN hS hP (by decide) (kg_GR) rfl) rfl rfl hl.1 rfl (lv_room (Nat.le_of_ble_eq_true rfl)) d_FL_tick_68 ⟨Nat.zero_le _, Nat.zero_le _⟩) hS (fun H locs hP hS => ?_)
  have hP : va_P D cls (fl_w ad (xc ad cA) 88 (tk_g M)) H := hP
  refine lv_aload_n hx hb d_FL_tick_71 rfl (lv_at hl 0 rfl) ?_
  refine gg_FL (k := 3) (v := .ref (ad 10)) hx hb hts hown hK hP  (hts _ (List.mem_cons_of_mem _ tw_285)) (by decide) rfl rfl d_FL_tick_72 ?_
  refine fl_callv (va_runV (As := []) (rest := []) ⟨hx, hb, hml, hown, hts⟩ (c_GR_stepClocks l hi (tk_g M) hT1 hT2 hT3) (kv_GR_stepClocks hts (hts _ (List.mem_cons_of_mem _ tw_620)) ⟨Nat.le_of_ble_eq_true rfl, Nat.le_of_ble_eq_true rfl⟩) (fl_preV hK hSt hN hS hP (by decide) (kg_GR) rfl) rfl rfl hl.1 rfl (lv_room (Nat.le_of_ble_eq_true rfl)) d_FL_tick_75 ⟨Nat.zero_le _, Nat.zero_le _⟩) hS (fun H locs hP hS => ?_)
  have hP : va_P D cls (fl_w ad (xc ad cA) 88 (tk_h M)) H := hP
  refine lv_aload_n hx hb d_FL_tick_78 rfl (lv_at hl 0 rfl) ?_
  refine gg_FL (k := 3) (v := .ref (ad 10)) hx hb hts hown hK hP  (hts _ (List.mem_cons_of_mem _ tw_285)) (by decide) rfl rfl d_FL_tick_79 ?_
  refine fl_calll (va_runV (As := []) (rest := []) ⟨hx, hb, hml, hown, hts⟩ (c_GR_nextInfo l hi (tk_h M) hT4 hT5 hT6 hT7) (kv_GR_nextInfo hts (hts _ (List.mem_cons_of_mem _ tw_640)) ⟨Nat.le_of_ble_eq_true rfl, Nat.le_of_ble_eq_true rfl⟩) (fl_preV hK hSt hN hS hP (by decide) (kg_GR) rfl) rfl rfl hl.1 rfl (lv_room (Nat.le_of_ble_eq_true rfl)) d_FL_tick_82 ⟨Nat.zero_le _, Nat.zero_le _⟩) hS (fun H locs hP hS => ?_)
  have hP : va_P D cls (fl_w ad (xc ad cA) 88 (tk_i M)) H := hP
  refine W.eq (g2 := F0 m 85 ls [.long (tk_iv M)]) rfl ?_
  refine lv_lstore_n (lv' := [(1, .long (tk_iv M)), (0, .ref (ad 0))]) hx hb d_FL_tick_85 rfl hl (by decide) rfl (fun ls hl => ?_)
  refine lv_lload_n hx hb d_FL_tick_86 rfl (lv_at hl 0 rfl) ?_
  refine lv_ldc2 (v := -1) hx hb hown (hts _ (List.mem_cons_of_mem _ tw_685)) d_FL_tick_87 ?_
  refine W.lcmp hx hb d_FL_tick_90 ?_
  refine lv_if_eq (tgt := 106) hx hb d_FL_tick_91 (by decide) (fun h_1 => ?_) (fun h_1 => ?_)
  ·
    have hG := hG.trans (if_pos h_1)
    exact fl_vret hx hb hr hlocks hP hS (by rw [hG]) d_FL_tick_106
  ·
    have hG := hG.trans (if_neg h_1)
    refine lv_aload_n hx hb d_FL_tick_94 rfl (lv_at hl 1 rfl) ?_
    refine gg_FL (k := 1) (v := .ref (ad 6)) hx hb hts hown hK hP  (hts _ (List.mem_cons_of_mem _ tw_283)) (by decide) rfl rfl d_FL_tick_95 ?_
    refine lv_aload_n hx hb d_FL_tick_98 rfl (lv_at hl 1 rfl) ?_
    refine gg_FL (k := 5) (v := .int ((tk_i M).1 0 5)) hx hb hts hown hK hP  (hts _ (List.mem_cons_of_mem _ tw_287)) (by decide) rfl rfl d_FL_tick_99 ?_
    refine lv_lload_n hx hb d_FL_tick_102 rfl (lv_at hl 0 rfl) ?_
    have hP : va_P D cls (fl_w ad (xc ad cA) 88 (pWY (tk_i M) 6 ((tk_i M).1 6) ((tk_i M).2 6) ((tk_i M).2 (6 + 1)))) H := by rw [id_WY]; exact hP
    refine fl_callv (va_runV (As := [.int ((tk_i M).1 0 5), .long (tk_iv M)]) (rest := []) ⟨hx, hb, hml, hown, hts⟩ (c_WY_send l hi (Or.inl rfl) (tk_i M) ((tk_i M).1 6) ((tk_i M).2 6) ((tk_i M).2 (6 + 1)) ((tk_i M).1 0 5) (tk_iv M)) (kv_WY_send hts (hts _ (List.mem_cons_of_mem _ tw_558)) ⟨Nat.le_of_ble_eq_true rfl, Nat.le_of_ble_eq_true rfl⟩) (fl_preV hK hSt hN hS hP (lt_WY (Or.inl rfl)) (kc_WY (Or.inl rfl)) rfl) rfl rfl hl.1 rfl (lv_room (Nat.le_of_ble_eq_true rfl)) d_FL_tick_103 ⟨Nat.zero_le _, Nat.zero_le _⟩) hS (fun H locs hP hS => ?_)
    have hP : va_P D cls (fl_w ad (xc ad cA) 88 (hg_WY_send (tk_i M) 6 ((tk_i M).1 0 5) (tk_iv M))) H := hP
    exact fl_vret hx hb hr hlocks hP hS (by rw [hG]) d_FL_tick_106
theorem hd_FL_tick : y_FL_tick.cls ≠ "java/lang/invoke/MethodHandle" ∧ y_FL_tick.cls ≠ "java/lang/invoke/VarHandle" ∧ (parseMethodDescriptor y_FL_tick.desc).map (fun d => d.parameters.length) = some 0 := by decide +kernel
theorem kv_FL_tick {R : Room} {s : State} {args : Array Value} {c0 : Cond} {own : String} {index : Nat} (hts : ∀ w ∈ c0 :: gw, w.before args s = true) (hl : (Cond.methodLink own index y_FL_tick).before args s = true) (hR : 5 + 1 ≤ R.frames ∧ 8 + (3 + 11) + 128 ≤ R.locals) : CallW R s args own "FarLink" index y_FL_tick b_FL_tick 3 none w_FL_tick ({ frames := 5, cells := 0, slots := 0, locals := 128 } : Room) 0 0 0 := ⟨callB_of 0 hts (gw_in tw_382) rfl rfl rfl (hts _ (List.mem_cons_of_mem _ tw_1)) hl hd_FL_tick hR, hts _ (List.mem_cons_of_mem _ tw_381), hts _ (List.mem_cons_of_mem _ ps_FL_tick)⟩
