/-! contracts: 26.run -/
def TK (M : fl_M) : Prop := (KP (tk_a M)) ∧ (nn ((tk_g M).1 11 5)) ∧ (nn ((tk_g M).1 10 2)) ∧ (((tk_g M).1 10 2).toNatClampNeg ≤ 16) ∧ (nn ((tk_h M).1 11 5)) ∧ (vp_in ((tk_h M).1 11 4) 16) ∧ (nn ((tk_h M).1 10 2)) ∧ (((tk_h M).1 10 2).toNatClampNeg ≤ 16)
theorem nn_below {x b : Int32} (h : ¬ g_FL_isBelow x b = 0) : nn x := nn_of (below_iff h).1
def g_FL_run_L29  : Nat → Nat → fl_M → fl_M
  | 0, i_29, M1 => (M1)
  | k_29 + 1, i_29, M1 => g_FL_run_L29  k_29 (i_29 + 1) (g_FL_tick M1)
def g_FL_run (M : fl_M) (x1 : Int32) : Int32 × fl_M :=
  if (g_FL_isBelow x1 101) = 0 then (((-1), M)) else ((((g_GR_countEnded (g_FL_run_L29  x1.toNatClampNeg 0 M)) + (g_CT_countClosed (g_FL_run_L29  x1.toNatClampNeg 0 M))) - ((g_GR_countEnded M) + (g_CT_countClosed M)), (g_FL_run_L29  x1.toNatClampNeg 0 M)))
set_option maxHeartbeats 4000000 in
set_option maxRecDepth 100000 in
theorem c_FL_run (l : Launch) {D : va_G} {ad : Nat → Nat} {cA : Nat → ClassId} {st : Nat → Nat} (hi : fl_inj ad 88) {XI : fl_M → Prop} (M : fl_M) (x1 : Int32) (hX : XI M) (hT : ∀ N, XI N → TK N ∧ XI (g_FL_tick N)) (hC : ∀ N, XI N → nn (N.1 10 2) ∧ (N.1 10 2).toNatClampNeg ≤ 16) : Met l y_FL_run w_FL_run ({ frames := 6, cells := 0, slots := 0, locals := 150 } : Room) (va_Pc [.ref (ad 0), .int x1] (fl_B D cls (xt cA) (xSL st) xFN xMN ad (xc ad cA) 88 M)) (va_Qi (fun r M' => r = (g_FL_run M x1).1 ∧ M' = ((g_FL_run M x1).2)) (fl_E D cls ad (xc ad cA) 88) (fl_A ad 88)) 0 0 (fl_A ad 88) := by
  refine Met.ofW (cc := b_FL_run) (maxL := 4) (ret := (some .int)) (by decide) rfl ?_
  intro p e s m args below meth c s₁ B hml hv
  obtain ⟨rfl, hP, hK, hSt, hN⟩ := hv
  have hx := B.exec
  have hb := B.bytes
  have hr := B.returns
  have hts := atoms_spec (ws := w_FL_run) B.pre
  have hown : s.vm.findClass "FarLink" = some m.cls := findClass_of_methodNamed B.named
  have hlocks := B.notSynchronized
  have hS : va_S (fl_A ad 88) s.heap s.heap [] := va_S.rf
  have hl := lv_entry ([.ref (ad 0), .int x1]) (n := 4) (Nat.le_of_ble_eq_true rfl)
  rw [lg_entry_eq]
  generalize (lg_sl ([.ref (ad 0), .int x1]) ++ List.replicate (4 - (lg_sl ([.ref (ad 0), .int x1])).length) Slot.unset).toArray = ls at hl ⊢
  have hl : lv_has ls 4 [(0, .ref (ad 0)), (1, .int x1)] := hl
  have hG := g_FL_run.eq_1 M x1
  refine lv_iload_n hx hb d_FL_run_0 rfl (lv_at hl 1 rfl) ?_
  refine lv_bipush (v := 101) hx hb d_FL_run_1 (by decide) ?_
  refine fl_calli (va_runS (As := [.int x1, .int 101]) (rest := []) ⟨hx, hb, hml, hown, hts⟩ (c_FL_isBelow l hi M x1 101) (kv_FL_isBelow hts (hts _ (List.mem_cons_of_mem _ tw_305)) ⟨Nat.le_of_ble_eq_true rfl, Nat.le_of_ble_eq_true rfl⟩) (fl_preS hK hSt hN hS hP) rfl rfl hl.1 rfl (lv_room (Nat.le_of_ble_eq_true rfl)) d_FL_run_3 ⟨Nat.zero_le _, Nat.zero_le _⟩) hS (fun H locs hP hS => ?_)
  refine lv_if_ne (tgt := 11) hx hb d_FL_run_6 (by decide) (fun h_1 => ?_) (fun h_1 => ?_)
  ·
    have hG := hG.trans (if_neg h_1)
    refine lv_aload_n hx hb d_FL_run_11 rfl (lv_at hl 0 rfl) ?_
    refine gg_FL (k := 3) (v := .ref (ad 10)) hx hb hts hown hK hP  (hts _ (List.mem_cons_of_mem _ tw_285)) (by decide) rfl rfl d_FL_run_12 ?_
    refine fl_calli (va_runV (As := []) (rest := []) ⟨hx, hb, hml, hown, hts⟩ (c_GR_countEnded l hi M ((hC _ hX).1) ((hC _ hX).2)) (kv_GR_countEnded hts (hts _ (List.mem_cons_of_mem _ tw_371)) ⟨Nat.le_of_ble_eq_true rfl, Nat.le_of_ble_eq_true rfl⟩) (fl_preV hK hSt hN hS hP (by decide) (kg_GR) rfl) rfl rfl hl.1 rfl (lv_room (Nat.le_of_ble_eq_true rfl)) d_FL_run_15 ⟨Nat.zero_le _, Nat.zero_le _⟩) hS (fun H locs hP hS => ?_)
    refine lv_aload_n hx hb d_FL_run_18 rfl (lv_at hl 0 rfl) ?_
    refine gg_FL (k := 4) (v := .ref (ad 15)) hx hb hts hown hK hP  (hts _ (List.mem_cons_of_mem _ tw_286)) (by decide) rfl rfl d_FL_run_19 ?_
    refine fl_calli (va_runV (As := []) (rest := [.int (g_GR_countEnded M)]) ⟨hx, hb, hml, hown, hts⟩ (c_CT_countClosed l hi M) (kv_CT_countClosed hts (hts _ (List.mem_cons_of_mem _ tw_375)) ⟨Nat.le_of_ble_eq_true rfl, Nat.le_of_ble_eq_true rfl⟩) (fl_preV hK hSt hN hS hP (by decide) (kg_CT) rfl) rfl rfl hl.1 rfl (lv_room (Nat.le_of_ble_eq_true rfl)) d_FL_run_22 ⟨Nat.zero_le _, Nat.zero_le _⟩) hS (fun H locs hP hS => ?_)
    refine lv_iadd hx hb d_FL_run_25 ?_
    refine lv_istore_n (lv' := [(2, .int ((g_GR_countEnded M) + (g_CT_countClosed M))), (0, .ref (ad 0)), (1, .int x1)]) hx hb d_FL_run_26 rfl hl (by decide) rfl (fun ls hl => ?_)
    refine lv_iconst (v := 0) hx hb d_FL_run_27 (by decide) ?_
    refine lv_istore_n (lv' := [(3, .int 0), (2, .int ((g_GR_countEnded M) + (g_CT_countClosed M))), (0, .ref (ad 0)), (1, .int x1)]) hx hb d_FL_run_28 rfl hl (by decide) rfl (fun ls hl => ?_)
    have hnx := nn_below (by assumption)
    have hBx := tn_lt x1
    have lp_29 : ∀ (k_29 : Nat) (i_29 : Nat) (M1 : fl_M) (ls : Array Slot) (H : Heap) (locs : List Loc), i_29 + k_29 = x1.toNatClampNeg → XI M1 → lv_has ls 4 [(0, .ref (ad 0)), (1, .int x1), (2, .int ((g_GR_countEnded M) + (g_CT_countClosed M))), (3, .int (nI i_29))] → va_P D cls (fl_w ad (xc ad cA) 88 M1) H → va_S (fl_A ad 88) s.heap H locs → (∀ (v : fl_M) (ls : Array Slot) (H : Heap) (locs : List Loc), v = g_FL_run_L29  k_29 i_29 M1 → XI v → lv_has ls 4 [(0, .ref (ad 0)), (1, .int x1), (2, .int ((g_GR_countEnded M) + (g_CT_countClosed M)))] → va_P D cls (fl_w ad (xc ad cA) 88 v) H → va_S (fl_A ad 88) s.heap H locs → W p l e (headSpec w_FL_run ({ frames := 6, cells := 0, slots := 0, locals := 150 } : Room)).room s m ([.ref (ad 0), .int x1] : List Value).toArray below meth c H locs 0 0 (MQ below (va_Qi (fun r M' => r = (g_FL_run M x1).1 ∧ M' = ((g_FL_run M x1).2)) (fl_E D cls ad (xc ad cA) 88) (fl_A ad 88)) ([.ref (ad 0), .int x1] : List Value).toArray s 0 0 (fl_A ad 88)) (F0 m 44 ls [])) → W p l e (headSpec w_FL_run ({ frames := 6, cells := 0, slots := 0, locals := 150 } : Room)).room s m ([.ref (ad 0), .int x1] : List Value).toArray below meth c H locs 0 0 (MQ below (va_Qi (fun r M' => r = (g_FL_run M x1).1 ∧ M' = ((g_FL_run M x1).2)) (fl_E D cls ad (xc ad cA) 88) (fl_A ad 88)) ([.ref (ad 0), .int x1] : List Value).toArray s 0 0 (fl_A ad 88)) (F0 m 29 ls []) := by
      intro k_29
      induction k_29 with
      | zero =>
        intro i_29 M1 ls H locs hbd hI hl hP hS kk
        have hG : g_FL_run_L29  0 i_29 M1 = _ := g_FL_run_L29.eq_1 ..
        refine lv_iload_n hx hb d_FL_run_29 rfl (lv_at hl 3 rfl) ?_
        refine lv_iload_n hx hb d_FL_run_30 rfl (lv_at hl 1 rfl) ?_
        refine lv_icmp_ge (tgt := 44) hx hb d_FL_run_31 (by decide) (fun _ => ?_) (fun h_2 => absurd (fl_le (b := x1.toNatClampNeg) hnx (by omega) (by omega)) h_2)
        have hl := lv_sub (l' := [(0, .ref (ad 0)), (1, .int x1), (2, .int ((g_GR_countEnded M) + (g_CT_countClosed M)))]) hl [0, 1, 2] rfl
        exact kk (M1) ls _ _ hG.symm hI hl hP hS
      | succ k_29 ih_29 =>
        intro i_29 M1 ls H locs hbd hI hl hP hS kk
        have hG : g_FL_run_L29  (k_29 + 1) i_29 M1 = _ := g_FL_run_L29.eq_2 ..
        refine lv_iload_n hx hb d_FL_run_29 rfl (lv_at hl 3 rfl) ?_
        refine lv_iload_n hx hb d_FL_run_30 rfl (lv_at hl 1 rfl) ?_
        refine lv_icmp_ge (tgt := 44) hx hb d_FL_run_31 (by decide) (fun h_3 => absurd h_3 (fl_nle (b := x1.toNatClampNeg) hnx (by omega) (by omega))) (fun _ => ?_)
        refine lv_aload_n hx hb d_FL_run_34 rfl (lv_at hl 0 rfl) ?_
        refine fl_callv (va_runV (As := []) (rest := []) ⟨hx, hb, hml, hown, hts⟩ (c_FL_tick l hi M1 ((hT _ hI).1.1) ((hT _ hI).1.2.1) ((hT _ hI).1.2.2.1) ((hT _ hI).1.2.2.2.1) ((hT _ hI).1.2.2.2.2.1) ((hT _ hI).1.2.2.2.2.2.1) ((hT _ hI).1.2.2.2.2.2.2.1) ((hT _ hI).1.2.2.2.2.2.2.2)) (kv_FL_tick hts (hts _ (List.mem_cons_of_mem _ tw_379)) ⟨Nat.le_of_ble_eq_true rfl, Nat.le_of_ble_eq_true rfl⟩) (fl_preV hK hSt hN hS hP (by decide) (kg_FL) rfl) rfl rfl hl.1 rfl (lv_room (Nat.le_of_ble_eq_true rfl)) d_FL_run_35 ⟨Nat.zero_le _, Nat.zero_le _⟩) hS (fun H locs hP hS => ?_)
        refine lv_iinc (k := 3) (v := nI (i_29 + 1)) (lv' := [(3, .int (nI (i_29 + 1))), (0, .ref (ad 0)), (1, .int x1), (2, .int ((g_GR_countEnded M) + (g_CT_countClosed M)))]) hx hb d_FL_run_38 hl rfl (fl_inc _) (by decide) rfl (fun ls hl => ?_)
        refine lv_goto (tgt := 29) hx hb d_FL_run_41 (by decide) ?_
        have hl := lv_sub (l' := [(0, .ref (ad 0)), (1, .int x1), (2, .int ((g_GR_countEnded M) + (g_CT_countClosed M))), (3, .int (nI (i_29 + 1)))]) hl [1, 2, 3, 0] rfl
        exact ih_29 (i_29 + 1) (g_FL_tick M1) ls _ _ (by omega) ((hT _ hI).2) hl hP hS (fun v ls H locs hv => kk v ls H locs (hv.trans hG.symm))
    have hl := lv_sub (l' := [(0, .ref (ad 0)), (1, .int x1), (2, .int ((g_GR_countEnded M) + (g_CT_countClosed M))), (3, .int (nI 0))]) hl [2, 3, 1, 0] rfl
    refine lp_29 x1.toNatClampNeg 0 M ls _ _ (by omega) (hX) hl hP hS (fun v ls H locs hv hI hl hP hS => ?_)
    subst hv
    refine lv_aload_n hx hb d_FL_run_44 rfl (lv_at hl 0 rfl) ?_
    refine gg_FL (k := 3) (v := .ref (ad 10)) hx hb hts hown hK hP  (hts _ (List.mem_cons_of_mem _ tw_285)) (by decide) rfl rfl d_FL_run_45 ?_
    refine fl_calli (va_runV (As := []) (rest := []) ⟨hx, hb, hml, hown, hts⟩ (c_GR_countEnded l hi (g_FL_run_L29  x1.toNatClampNeg 0 M) ((hC _ hI).1) ((hC _ hI).2)) (kv_GR_countEnded hts (hts _ (List.mem_cons_of_mem _ tw_371)) ⟨Nat.le_of_ble_eq_true rfl, Nat.le_of_ble_eq_true rfl⟩) (fl_preV hK hSt hN hS hP (by decide) (kg_GR) rfl) rfl rfl hl.1 rfl (lv_room (Nat.le_of_ble_eq_true rfl)) d_FL_run_48 ⟨Nat.zero_le _, Nat.zero_le _⟩) hS (fun H locs hP hS => ?_)
    refine lv_aload_n hx hb d_FL_run_51 rfl (lv_at hl 0 rfl) ?_
    refine gg_FL (k := 4) (v := .ref (ad 15)) hx hb hts hown hK hP  (hts _ (List.mem_cons_of_mem _ tw_286)) (by decide) rfl rfl d_FL_run_52 ?_
    refine fl_calli (va_runV (As := []) (rest := [.int (g_GR_countEnded (g_FL_run_L29  x1.toNatClampNeg 0 M))]) ⟨hx, hb, hml, hown, hts⟩ (c_CT_countClosed l hi (g_FL_run_L29  x1.toNatClampNeg 0 M)) (kv_CT_countClosed hts (hts _ (List.mem_cons_of_mem _ tw_375)) ⟨Nat.le_of_ble_eq_true rfl, Nat.le_of_ble_eq_true rfl⟩) (fl_preV hK hSt hN hS hP (by decide) (kg_CT) rfl) rfl rfl hl.1 rfl (lv_room (Nat.le_of_ble_eq_true rfl)) d_FL_run_55 ⟨Nat.zero_le _, Nat.zero_le _⟩) hS (fun H locs hP hS => ?_)
    refine lv_iadd hx hb d_FL_run_58 ?_
    refine lv_iload_n hx hb d_FL_run_59 rfl (lv_at hl 2 rfl) ?_
    refine lv_isub hx hb d_FL_run_60 ?_
    exact fl_iret hx hb hr hlocks hP hS (congrArg Prod.fst hG).symm (by rw [hG]) d_FL_run_61
  ·
    have hG := hG.trans (if_pos h_1)
    refine lv_iconst (v := -1) hx hb d_FL_run_9 (by decide) ?_
    exact fl_iret hx hb hr hlocks hP hS (congrArg Prod.fst hG).symm (by rw [hG]) d_FL_run_10
theorem hd_FL_run : y_FL_run.cls ≠ "java/lang/invoke/MethodHandle" ∧ y_FL_run.cls ≠ "java/lang/invoke/VarHandle" ∧ (parseMethodDescriptor y_FL_run.desc).map (fun d => d.parameters.length) = some 1 := by decide +kernel
theorem kv_FL_run {R : Room} {s : State} {args : Array Value} {c0 : Cond} {own : String} {index : Nat} (hts : ∀ w ∈ c0 :: gw, w.before args s = true) (hl : (Cond.methodLink own index y_FL_run).before args s = true) (hR : 6 + 1 ≤ R.frames ∧ 8 + (4 + 11) + 150 ≤ R.locals) : CallW R s args own "FarLink" index y_FL_run b_FL_run 4 (some .int) w_FL_run ({ frames := 6, cells := 0, slots := 0, locals := 150 } : Room) 0 0 1 := ⟨callB_of 1 hts (gw_in tw_370) rfl rfl rfl (hts _ (List.mem_cons_of_mem _ tw_1)) hl hd_FL_run hR, hts _ (List.mem_cons_of_mem _ tw_368), hts _ (List.mem_cons_of_mem _ tw_369)⟩
