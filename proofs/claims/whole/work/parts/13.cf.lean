/-! contracts: 13.cf -/
def g_CF_giveOnInOrder (f : Nat → Int32) (x1 : Int32) : Int32 × (Nat → Int32) :=
  if ((x1 - (f 0)) &&& 15) = 0 then ((1, (upd (upd f 0 (((f 0) + 1) &&& 15)) 2 0))) else (if 8 ≤ ((x1 - (f 0)) &&& 15) then (if ((x1 - (f 0)) &&& 15) = 8 then ((0, (upd f 1 1))) else ((0, f))) else ((0, (upd f 2 1))))
set_option maxHeartbeats 4000000 in
set_option maxRecDepth 100000 in
theorem c_CF_giveOnInOrder (l : Launch) {D : va_G} {ad : Nat → Nat} {cA : Nat → ClassId} {st : Nat → Nat} (hi : fl_inj ad 88) (M : fl_M) (f : Nat → Int32) (x1 : Int32) : Met l y_CF_giveOnInOrder w_CF_giveOnInOrder ({ frames := 0, cells := 0, slots := 0, locals := 0 } : Room) (va_Pc [.ref (ad 16), .int x1] (fl_B D cls (xt cA) (xSL st) xFN xMN ad (xc ad cA) 88 (pCF M f))) (va_Qi (fun r M' => r = (g_CF_giveOnInOrder f x1).1 ∧ M' = (pCF M ((g_CF_giveOnInOrder f x1).2))) (fl_E D cls ad (xc ad cA) 88) (fl_A ad 88)) 0 0 (fl_A ad 88) := by
  refine Met.ofW (cc := b_CF_giveOnInOrder) (maxL := 3) (ret := (some .boolean)) (by decide) rfl ?_
  intro p e s m args below meth c s₁ B hml hv
  obtain ⟨rfl, hP, hK, hSt, hN⟩ := hv
  have hx := B.exec
  have hb := B.bytes
  have hr := B.returns
  have hts := atoms_spec (ws := w_CF_giveOnInOrder) B.pre
  have hown : s.vm.findClass "FarLink$CraftFrames" = some m.cls := findClass_of_methodNamed B.named
  have hlocks := B.notSynchronized
  have hS : va_S (fl_A ad 88) s.heap s.heap [] := va_S.rf
  have hl := lv_entry ([.ref (ad 16), .int x1]) (n := 3) (Nat.le_of_ble_eq_true rfl)
  rw [lg_entry_eq]
  generalize (lg_sl ([.ref (ad 16), .int x1]) ++ List.replicate (3 - (lg_sl ([.ref (ad 16), .int x1])).length) Slot.unset).toArray = ls at hl ⊢
  have hl : lv_has ls 3 [(0, .ref (ad 16)), (1, .int x1)] := hl
  have hG := g_CF_giveOnInOrder.eq_1 f x1
  refine lv_iload_n hx hb d_CF_giveOnInOrder_0 rfl (lv_at hl 1 rfl) ?_
  refine lv_aload_n hx hb d_CF_giveOnInOrder_1 rfl (lv_at hl 0 rfl) ?_
  refine gt_CF (k := 0) (v := .int (f 0)) hx hb hts hown hK hP  (hts _ (List.mem_cons_of_mem _ tw_197)) (by decide) rfl rfl d_CF_giveOnInOrder_2 ?_
  refine lv_isub hx hb d_CF_giveOnInOrder_5 ?_
  refine lv_bipush (v := 15) hx hb d_CF_giveOnInOrder_6 (by decide) ?_
  refine lv_iand hx hb d_CF_giveOnInOrder_8 ?_
  refine lv_istore_n (lv' := [(2, .int ((x1 - (f 0)) &&& 15)), (0, .ref (ad 16)), (1, .int x1)]) hx hb d_CF_giveOnInOrder_9 rfl hl (by decide) rfl (fun ls hl => ?_)
  refine lv_iload_n hx hb d_CF_giveOnInOrder_10 rfl (lv_at hl 0 rfl) ?_
  refine lv_if_ne (tgt := 34) hx hb d_CF_giveOnInOrder_11 (by decide) (fun h_1 => ?_) (fun h_1 => ?_)
  ·
    have hG := hG.trans (if_neg h_1)
    refine lv_iload_n hx hb d_CF_giveOnInOrder_34 rfl (lv_at hl 0 rfl) ?_
    refine lv_bipush (v := 8) hx hb d_CF_giveOnInOrder_35 (by decide) ?_
    refine lv_icmp_ge (tgt := 48) hx hb d_CF_giveOnInOrder_37 (by decide) (fun h_2 => ?_) (fun h_2 => ?_)
    ·
      have hG := hG.trans (if_pos h_2)
      refine lv_iload_n hx hb d_CF_giveOnInOrder_48 rfl (lv_at hl 0 rfl) ?_
      refine lv_bipush (v := 8) hx hb d_CF_giveOnInOrder_49 (by decide) ?_
      refine lv_icmp_ne (tgt := 59) hx hb d_CF_giveOnInOrder_51 (by decide) (fun h_3 => ?_) (fun h_3 => ?_)
      ·
        have hG := hG.trans (if_neg h_3)
        refine lv_iconst (v := 0) hx hb d_CF_giveOnInOrder_59 (by decide) ?_
        exact fl_zret hx hb hr hlocks hP hS (rfl) (congrArg Prod.fst hG).symm (by rw [hG]) d_CF_giveOnInOrder_60
      ·
        have hG := hG.trans (if_pos h_3)
        refine lv_aload_n hx hb d_CF_giveOnInOrder_54 rfl (lv_at hl 1 rfl) ?_
        refine lv_iconst (v := 1) hx hb d_CF_giveOnInOrder_55 (by decide) ?_
        refine pt_CF (k := 1) hx hb hts hown hK hi hP hS  (hts _ (List.mem_cons_of_mem _ tw_198)) (by decide) rfl rfl (rfl) (rfl) (Nat.le_of_ble_eq_true rfl) rfl d_CF_giveOnInOrder_56 (fun H locs hP hS => ?_)
        refine lv_iconst (v := 0) hx hb d_CF_giveOnInOrder_59 (by decide) ?_
        exact fl_zret hx hb hr hlocks hP hS (rfl) (congrArg Prod.fst hG).symm (by rw [hG]) d_CF_giveOnInOrder_60
    ·
      have hG := hG.trans (if_neg h_2)
      refine lv_aload_n hx hb d_CF_giveOnInOrder_40 rfl (lv_at hl 1 rfl) ?_
      refine lv_iconst (v := 1) hx hb d_CF_giveOnInOrder_41 (by decide) ?_
      refine pt_CF (k := 2) hx hb hts hown hK hi hP hS  (hts _ (List.mem_cons_of_mem _ tw_199)) (by decide) rfl rfl (rfl) (rfl) (Nat.le_of_ble_eq_true rfl) rfl d_CF_giveOnInOrder_42 (fun H locs hP hS => ?_)
      refine lv_goto (tgt := 59) hx hb d_CF_giveOnInOrder_45 (by decide) ?_
      refine lv_iconst (v := 0) hx hb d_CF_giveOnInOrder_59 (by decide) ?_
      exact fl_zret hx hb hr hlocks hP hS (rfl) (congrArg Prod.fst hG).symm (by rw [hG]) d_CF_giveOnInOrder_60
  ·
    have hG := hG.trans (if_pos h_1)
    refine lv_aload_n hx hb d_CF_giveOnInOrder_14 rfl (lv_at hl 1 rfl) ?_
    refine lv_aload_n hx hb d_CF_giveOnInOrder_15 rfl (lv_at hl 1 rfl) ?_
    refine gt_CF (k := 0) (v := .int (f 0)) hx hb hts hown hK hP  (hts _ (List.mem_cons_of_mem _ tw_197)) (by decide) rfl rfl d_CF_giveOnInOrder_16 ?_
    refine lv_iconst (v := 1) hx hb d_CF_giveOnInOrder_19 (by decide) ?_
    refine lv_iadd hx hb d_CF_giveOnInOrder_20 ?_
    refine lv_bipush (v := 15) hx hb d_CF_giveOnInOrder_21 (by decide) ?_
    refine lv_iand hx hb d_CF_giveOnInOrder_23 ?_
    refine pt_CF (k := 0) hx hb hts hown hK hi hP hS  (hts _ (List.mem_cons_of_mem _ tw_197)) (by decide) rfl rfl rfl rfl (Nat.le_of_ble_eq_true rfl) rfl d_CF_giveOnInOrder_24 (fun H locs hP hS => ?_)
    refine lv_aload_n hx hb d_CF_giveOnInOrder_27 rfl (lv_at hl 1 rfl) ?_
    refine lv_iconst (v := 0) hx hb d_CF_giveOnInOrder_28 (by decide) ?_
    refine pt_CF (k := 2) hx hb hts hown hK hi hP hS  (hts _ (List.mem_cons_of_mem _ tw_199)) (by decide) rfl rfl (rfl) (rfl) (Nat.le_of_ble_eq_true rfl) rfl d_CF_giveOnInOrder_29 (fun H locs hP hS => ?_)
    refine lv_iconst (v := 1) hx hb d_CF_giveOnInOrder_32 (by decide) ?_
    exact fl_zret hx hb hr hlocks hP hS (rfl) (congrArg Prod.fst hG).symm (by rw [hG]) d_CF_giveOnInOrder_33
theorem z_CF_giveOnInOrder (f : Nat → Int32) (x1 : Int32) : (g_CF_giveOnInOrder f x1).1 &&& 1 = (g_CF_giveOnInOrder f x1).1 := by
  unfold g_CF_giveOnInOrder
  repeat (first | split | (show (0 : Int32) &&& 1 = 0; rfl) | (show (1 : Int32) &&& 1 = 1; rfl) | rfl)
theorem hd_CF_giveOnInOrder : y_CF_giveOnInOrder.cls ≠ "java/lang/invoke/MethodHandle" ∧ y_CF_giveOnInOrder.cls ≠ "java/lang/invoke/VarHandle" ∧ (parseMethodDescriptor y_CF_giveOnInOrder.desc).map (fun d => d.parameters.length) = some 1 := by decide +kernel
theorem kv_CF_giveOnInOrder {R : Room} {s : State} {args : Array Value} {c0 : Cond} {own : String} {index : Nat} (hts : ∀ w ∈ c0 :: gw, w.before args s = true) (hl : (Cond.methodLink own index y_CF_giveOnInOrder).before args s = true) (hR : 0 + 1 ≤ R.frames ∧ 8 + (3 + 11) + 0 ≤ R.locals) : CallW R s args own "FarLink$CraftFrames" index y_CF_giveOnInOrder b_CF_giveOnInOrder 3 (some .boolean) w_CF_giveOnInOrder ({ frames := 0, cells := 0, slots := 0, locals := 0 } : Room) 0 0 1 := ⟨callB_of 1 hts (gw_in tw_457) rfl rfl rfl (hts _ (List.mem_cons_of_mem _ tw_8)) hl hd_CF_giveOnInOrder hR, hts _ (List.mem_cons_of_mem _ tw_456), hts _ (List.mem_cons_of_mem _ ps_CF_giveOnInOrder)⟩
def g_CF_giveOn (f : Nat → Int32) (x1 : Int32) (x2 : Int32) : Int32 × (Nat → Int32) :=
  if x1 = 0 then (if (f 1) = 0 then (if ((g_CF_giveOnInOrder f x2).1) = 0 then ((0, ((g_CF_giveOnInOrder f x2).2))) else ((1, ((g_CF_giveOnInOrder f x2).2)))) else ((0, f))) else (if x1 = 1 then ((1, f)) else (if x1 = 2 then ((0, (upd (upd f 1 0) 2 0))) else (if x1 = 3 then (if (f 1) = 0 then ((0, (upd (upd f 0 x2) 2 0))) else ((0, f))) else ((0, f)))))
set_option maxHeartbeats 4000000 in
set_option maxRecDepth 100000 in
theorem c_CF_giveOn (l : Launch) {D : va_G} {ad : Nat → Nat} {cA : Nat → ClassId} {st : Nat → Nat} (hi : fl_inj ad 88) (M : fl_M) (f : Nat → Int32) (x1 : Int32) (x2 : Int32) : Met l y_CF_giveOn w_CF_giveOn ({ frames := 1, cells := 0, slots := 0, locals := 22 } : Room) (va_Pc [.ref (ad 16), .int x1, .int x2] (fl_B D cls (xt cA) (xSL st) xFN xMN ad (xc ad cA) 88 (pCF M f))) (va_Qi (fun r M' => r = (g_CF_giveOn f x1 x2).1 ∧ M' = (pCF M ((g_CF_giveOn f x1 x2).2))) (fl_E D cls ad (xc ad cA) 88) (fl_A ad 88)) 0 0 (fl_A ad 88) := by
  refine Met.ofW (cc := b_CF_giveOn) (maxL := 3) (ret := (some .boolean)) (by decide) rfl ?_
  intro p e s m args below meth c s₁ B hml hv
  obtain ⟨rfl, hP, hK, hSt, hN⟩ := hv
  have hx := B.exec
  have hb := B.bytes
  have hr := B.returns
  have hts := atoms_spec (ws := w_CF_giveOn) B.pre
  have hown : s.vm.findClass "FarLink$CraftFrames" = some m.cls := findClass_of_methodNamed B.named
  have hlocks := B.notSynchronized
  have hS : va_S (fl_A ad 88) s.heap s.heap [] := va_S.rf
  have hl := lv_entry ([.ref (ad 16), .int x1, .int x2]) (n := 3) (Nat.le_of_ble_eq_true rfl)
  rw [lg_entry_eq]
  generalize (lg_sl ([.ref (ad 16), .int x1, .int x2]) ++ List.replicate (3 - (lg_sl ([.ref (ad 16), .int x1, .int x2])).length) Slot.unset).toArray = ls at hl ⊢
  have hl : lv_has ls 3 [(0, .ref (ad 16)), (1, .int x1), (2, .int x2)] := hl
  have hG := g_CF_giveOn.eq_1 f x1 x2
  refine lv_iload_n hx hb d_CF_giveOn_0 rfl (lv_at hl 1 rfl) ?_
  by_cases h_1 : x1 = 0
  ·
    have hG := hG.trans (if_pos h_1)
    refine lv_tableIn (tgt := 32) (off := 31) hx hb d_CF_giveOn_1 (by rw [h_1]; decide) (by rw [h_1]; decide) (by rw [h_1]; decide) (by decide) ?_
    refine lv_aload_n hx hb d_CF_giveOn_32 rfl (lv_at hl 0 rfl) ?_
    refine gt_CF (k := 1) (v := .int (f 1)) hx hb hts hown hK hP  (hts _ (List.mem_cons_of_mem _ tw_198)) (by decide) rfl rfl d_CF_giveOn_33 ?_
    refine lv_if_ne (tgt := 51) hx hb d_CF_giveOn_36 (by decide) (fun h_2 => ?_) (fun h_2 => ?_)
    ·
      have hG := hG.trans (if_neg h_2)
      refine lv_iconst (v := 0) hx hb d_CF_giveOn_51 (by decide) ?_
      exact fl_zret hx hb hr hlocks hP hS (rfl) (congrArg Prod.fst hG).symm (by rw [hG]) d_CF_giveOn_52
    ·
      have hG := hG.trans (if_pos h_2)
      refine lv_aload_n hx hb d_CF_giveOn_39 rfl (lv_at hl 0 rfl) ?_
      refine lv_iload_n hx hb d_CF_giveOn_40 rfl (lv_at hl 2 rfl) ?_
      refine fl_calli (va_runV (As := [.int x2]) (rest := []) ⟨hx, hb, hml, hown, hts⟩ (c_CF_giveOnInOrder l hi M f x2) (kv_CF_giveOnInOrder hts (hts _ (List.mem_cons_of_mem _ tw_454)) ⟨Nat.le_of_ble_eq_true rfl, Nat.le_of_ble_eq_true rfl⟩) (fl_preV hK hSt hN hS hP (by decide) (kc_CF) rfl) rfl rfl hl.1 rfl (lv_room (Nat.le_of_ble_eq_true rfl)) d_CF_giveOn_41 ⟨Nat.zero_le _, Nat.zero_le _⟩) hS (fun H locs hP hS => ?_)
      refine lv_if_eq (tgt := 51) hx hb d_CF_giveOn_44 (by decide) (fun h_3 => ?_) (fun h_3 => ?_)
      ·
        have hG := hG.trans (if_pos h_3)
        refine lv_iconst (v := 0) hx hb d_CF_giveOn_51 (by decide) ?_
        exact fl_zret hx hb hr hlocks hP hS (rfl) (congrArg Prod.fst hG).symm (by rw [hG]) d_CF_giveOn_52
      ·
        have hG := hG.trans (if_neg h_3)
        refine lv_iconst (v := 1) hx hb d_CF_giveOn_47 (by decide) ?_
        refine lv_goto (tgt := 52) hx hb d_CF_giveOn_48 (by decide) ?_
        exact fl_zret hx hb hr hlocks hP hS (rfl) (congrArg Prod.fst hG).symm (by rw [hG]) d_CF_giveOn_52
  ·
    have hG := hG.trans (if_neg h_1)
    by_cases h_4 : x1 = 1
    ·
      have hG := hG.trans (if_pos h_4)
      refine lv_tableIn (tgt := 53) (off := 52) hx hb d_CF_giveOn_1 (by rw [h_4]; decide) (by rw [h_4]; decide) (by rw [h_4]; decide) (by decide) ?_
      refine lv_iconst (v := 1) hx hb d_CF_giveOn_53 (by decide) ?_
      exact fl_zret hx hb hr hlocks hP hS (rfl) (congrArg Prod.fst hG).symm (by rw [hG]) d_CF_giveOn_54
    ·
      have hG := hG.trans (if_neg h_4)
      by_cases h_5 : x1 = 2
      ·
        have hG := hG.trans (if_pos h_5)
        refine lv_tableIn (tgt := 55) (off := 54) hx hb d_CF_giveOn_1 (by rw [h_5]; decide) (by rw [h_5]; decide) (by rw [h_5]; decide) (by decide) ?_
        refine lv_aload_n hx hb d_CF_giveOn_55 rfl (lv_at hl 0 rfl) ?_
        refine lv_iconst (v := 0) hx hb d_CF_giveOn_56 (by decide) ?_
        refine pt_CF (k := 1) hx hb hts hown hK hi hP hS  (hts _ (List.mem_cons_of_mem _ tw_198)) (by decide) rfl rfl (rfl) (rfl) (Nat.le_of_ble_eq_true rfl) rfl d_CF_giveOn_57 (fun H locs hP hS => ?_)
        refine lv_aload_n hx hb d_CF_giveOn_60 rfl (lv_at hl 0 rfl) ?_
        refine lv_iconst (v := 0) hx hb d_CF_giveOn_61 (by decide) ?_
        refine pt_CF (k := 2) hx hb hts hown hK hi hP hS  (hts _ (List.mem_cons_of_mem _ tw_199)) (by decide) rfl rfl (rfl) (rfl) (Nat.le_of_ble_eq_true rfl) rfl d_CF_giveOn_62 (fun H locs hP hS => ?_)
        refine lv_iconst (v := 0) hx hb d_CF_giveOn_65 (by decide) ?_
        exact fl_zret hx hb hr hlocks hP hS (rfl) (congrArg Prod.fst hG).symm (by rw [hG]) d_CF_giveOn_66
      ·
        have hG := hG.trans (if_neg h_5)
        by_cases h_6 : x1 = 3
        ·
          have hG := hG.trans (if_pos h_6)
          refine lv_tableIn (tgt := 67) (off := 66) hx hb d_CF_giveOn_1 (by rw [h_6]; decide) (by rw [h_6]; decide) (by rw [h_6]; decide) (by decide) ?_
          refine lv_aload_n hx hb d_CF_giveOn_67 rfl (lv_at hl 0 rfl) ?_
          refine gt_CF (k := 1) (v := .int (f 1)) hx hb hts hown hK hP  (hts _ (List.mem_cons_of_mem _ tw_198)) (by decide) rfl rfl d_CF_giveOn_68 ?_
          refine lv_if_ne (tgt := 84) hx hb d_CF_giveOn_71 (by decide) (fun h_7 => ?_) (fun h_7 => ?_)
          ·
            have hG := hG.trans (if_neg h_7)
            refine lv_iconst (v := 0) hx hb d_CF_giveOn_84 (by decide) ?_
            exact fl_zret hx hb hr hlocks hP hS (rfl) (congrArg Prod.fst hG).symm (by rw [hG]) d_CF_giveOn_85
          ·
            have hG := hG.trans (if_pos h_7)
            refine lv_aload_n hx hb d_CF_giveOn_74 rfl (lv_at hl 0 rfl) ?_
            refine lv_iload_n hx hb d_CF_giveOn_75 rfl (lv_at hl 2 rfl) ?_
            refine pt_CF (k := 0) hx hb hts hown hK hi hP hS  (hts _ (List.mem_cons_of_mem _ tw_197)) (by decide) rfl rfl rfl rfl (Nat.le_of_ble_eq_true rfl) rfl d_CF_giveOn_76 (fun H locs hP hS => ?_)
            refine lv_aload_n hx hb d_CF_giveOn_79 rfl (lv_at hl 0 rfl) ?_
            refine lv_iconst (v := 0) hx hb d_CF_giveOn_80 (by decide) ?_
            refine pt_CF (k := 2) hx hb hts hown hK hi hP hS  (hts _ (List.mem_cons_of_mem _ tw_199)) (by decide) rfl rfl (rfl) (rfl) (Nat.le_of_ble_eq_true rfl) rfl d_CF_giveOn_81 (fun H locs hP hS => ?_)
            refine lv_iconst (v := 0) hx hb d_CF_giveOn_84 (by decide) ?_
            exact fl_zret hx hb hr hlocks hP hS (rfl) (congrArg Prod.fst hG).symm (by rw [hG]) d_CF_giveOn_85
        ·
          have hG := hG.trans (if_neg h_6)
          refine lv_tableOut (tgt := 86) hx hb d_CF_giveOn_1 (by have := lv_neT (a := 0) h_1 (by decide); have := lv_neT (a := 1) h_4 (by decide); have := lv_neT (a := 2) h_5 (by decide); have := lv_neT (a := 3) h_6 (by decide); omega) (by decide) ?_
          refine lv_iconst (v := 0) hx hb d_CF_giveOn_86 (by decide) ?_
          exact fl_zret hx hb hr hlocks hP hS (rfl) (congrArg Prod.fst hG).symm (by rw [hG]) d_CF_giveOn_87
theorem z_CF_giveOn (f : Nat → Int32) (x1 : Int32) (x2 : Int32) : (g_CF_giveOn f x1 x2).1 &&& 1 = (g_CF_giveOn f x1 x2).1 := by
  unfold g_CF_giveOn
  repeat (first | split | with_reducible exact z_CF_giveOnInOrder .. | (show (0 : Int32) &&& 1 = 0; rfl) | (show (1 : Int32) &&& 1 = 1; rfl) | rfl)
theorem hd_CF_giveOn : y_CF_giveOn.cls ≠ "java/lang/invoke/MethodHandle" ∧ y_CF_giveOn.cls ≠ "java/lang/invoke/VarHandle" ∧ (parseMethodDescriptor y_CF_giveOn.desc).map (fun d => d.parameters.length) = some 2 := by decide +kernel
theorem kv_CF_giveOn {R : Room} {s : State} {args : Array Value} {c0 : Cond} {own : String} {index : Nat} (hts : ∀ w ∈ c0 :: gw, w.before args s = true) (hl : (Cond.methodLink own index y_CF_giveOn).before args s = true) (hR : 1 + 1 ≤ R.frames ∧ 8 + (3 + 11) + 22 ≤ R.locals) : CallW R s args own "FarLink$CraftFrames" index y_CF_giveOn b_CF_giveOn 3 (some .boolean) w_CF_giveOn ({ frames := 1, cells := 0, slots := 0, locals := 22 } : Room) 0 0 2 := ⟨callB_of 2 hts (gw_in tw_453) rfl rfl rfl (hts _ (List.mem_cons_of_mem _ tw_8)) hl hd_CF_giveOn hR, hts _ (List.mem_cons_of_mem _ tw_451), hts _ (List.mem_cons_of_mem _ tw_452)⟩
def g_CF_reportBits (f : Nat → Int32) : Int32 :=
  if (f 1) = 0 then (if (f 2) = 0 then (((f 0) + 0) + 0) else (((f 0) + 0) + 32)) else (if (f 2) = 0 then (((f 0) + 16) + 0) else (((f 0) + 16) + 32))
set_option maxHeartbeats 4000000 in
set_option maxRecDepth 100000 in
theorem c_CF_reportBits (l : Launch) {D : va_G} {ad : Nat → Nat} {cA : Nat → ClassId} {st : Nat → Nat} (hi : fl_inj ad 88) (M : fl_M) (f : Nat → Int32) : Met l y_CF_reportBits w_CF_reportBits ({ frames := 0, cells := 0, slots := 0, locals := 0 } : Room) (va_Pc [.ref (ad 16)] (fl_B D cls (xt cA) (xSL st) xFN xMN ad (xc ad cA) 88 (pCF M f))) (va_Qi (fun r M' => r = (g_CF_reportBits f) ∧ M' = (pCF M f)) (fl_E D cls ad (xc ad cA) 88) (fl_A ad 88)) 0 0 (fl_A ad 88) := by
  refine Met.ofW (cc := b_CF_reportBits) (maxL := 1) (ret := (some .int)) (by decide) rfl ?_
  intro p e s m args below meth c s₁ B hml hv
  obtain ⟨rfl, hP, hK, hSt, hN⟩ := hv
  have hx := B.exec
  have hb := B.bytes
  have hr := B.returns
  have hts := atoms_spec (ws := w_CF_reportBits) B.pre
  have hown : s.vm.findClass "FarLink$CraftFrames" = some m.cls := findClass_of_methodNamed B.named
  have hlocks := B.notSynchronized
  have hS : va_S (fl_A ad 88) s.heap s.heap [] := va_S.rf
  have hl := lv_entry ([.ref (ad 16)]) (n := 1) (Nat.le_of_ble_eq_true rfl)
  rw [lg_entry_eq]
  generalize (lg_sl ([.ref (ad 16)]) ++ List.replicate (1 - (lg_sl ([.ref (ad 16)])).length) Slot.unset).toArray = ls at hl ⊢
  have hl : lv_has ls 1 [(0, .ref (ad 16))] := hl
  have hG := g_CF_reportBits.eq_1 f
  refine lv_aload_n hx hb d_CF_reportBits_0 rfl (lv_at hl 0 rfl) ?_
  refine gt_CF (k := 0) (v := .int (f 0)) hx hb hts hown hK hP  (hts _ (List.mem_cons_of_mem _ tw_197)) (by decide) rfl rfl d_CF_reportBits_1 ?_
  refine lv_aload_n hx hb d_CF_reportBits_4 rfl (lv_at hl 0 rfl) ?_
  refine gt_CF (k := 1) (v := .int (f 1)) hx hb hts hown hK hP  (hts _ (List.mem_cons_of_mem _ tw_198)) (by decide) rfl rfl d_CF_reportBits_5 ?_
  refine lv_if_eq (tgt := 16) hx hb d_CF_reportBits_8 (by decide) (fun h_1 => ?_) (fun h_1 => ?_)
  ·
    have hG := hG.trans (if_pos h_1)
    refine lv_iconst (v := 0) hx hb d_CF_reportBits_16 (by decide) ?_
    refine lv_iadd hx hb d_CF_reportBits_17 ?_
    refine lv_aload_n hx hb d_CF_reportBits_18 rfl (lv_at hl 0 rfl) ?_
    refine gt_CF (k := 2) (v := .int (f 2)) hx hb hts hown hK hP  (hts _ (List.mem_cons_of_mem _ tw_199)) (by decide) rfl rfl d_CF_reportBits_19 ?_
    refine lv_if_eq (tgt := 30) hx hb d_CF_reportBits_22 (by decide) (fun h_2 => ?_) (fun h_2 => ?_)
    ·
      have hG := hG.trans (if_pos h_2)
      refine lv_iconst (v := 0) hx hb d_CF_reportBits_30 (by decide) ?_
      refine lv_iadd hx hb d_CF_reportBits_31 ?_
      exact fl_iret hx hb hr hlocks hP hS hG.symm rfl d_CF_reportBits_32
    ·
      have hG := hG.trans (if_neg h_2)
      refine lv_bipush (v := 32) hx hb d_CF_reportBits_25 (by decide) ?_
      refine lv_goto (tgt := 31) hx hb d_CF_reportBits_27 (by decide) ?_
      refine lv_iadd hx hb d_CF_reportBits_31 ?_
      exact fl_iret hx hb hr hlocks hP hS hG.symm rfl d_CF_reportBits_32
  ·
    have hG := hG.trans (if_neg h_1)
    refine lv_bipush (v := 16) hx hb d_CF_reportBits_11 (by decide) ?_
    refine lv_goto (tgt := 17) hx hb d_CF_reportBits_13 (by decide) ?_
    refine lv_iadd hx hb d_CF_reportBits_17 ?_
    refine lv_aload_n hx hb d_CF_reportBits_18 rfl (lv_at hl 0 rfl) ?_
    refine gt_CF (k := 2) (v := .int (f 2)) hx hb hts hown hK hP  (hts _ (List.mem_cons_of_mem _ tw_199)) (by decide) rfl rfl d_CF_reportBits_19 ?_
    refine lv_if_eq (tgt := 30) hx hb d_CF_reportBits_22 (by decide) (fun h_3 => ?_) (fun h_3 => ?_)
    ·
      have hG := hG.trans (if_pos h_3)
      refine lv_iconst (v := 0) hx hb d_CF_reportBits_30 (by decide) ?_
      refine lv_iadd hx hb d_CF_reportBits_31 ?_
      exact fl_iret hx hb hr hlocks hP hS hG.symm rfl d_CF_reportBits_32
    ·
      have hG := hG.trans (if_neg h_3)
      refine lv_bipush (v := 32) hx hb d_CF_reportBits_25 (by decide) ?_
      refine lv_goto (tgt := 31) hx hb d_CF_reportBits_27 (by decide) ?_
      refine lv_iadd hx hb d_CF_reportBits_31 ?_
      exact fl_iret hx hb hr hlocks hP hS hG.symm rfl d_CF_reportBits_32
theorem hd_CF_reportBits : y_CF_reportBits.cls ≠ "java/lang/invoke/MethodHandle" ∧ y_CF_reportBits.cls ≠ "java/lang/invoke/VarHandle" ∧ (parseMethodDescriptor y_CF_reportBits.desc).map (fun d => d.parameters.length) = some 0 := by decide +kernel
theorem kv_CF_reportBits {R : Room} {s : State} {args : Array Value} {c0 : Cond} {own : String} {index : Nat} (hts : ∀ w ∈ c0 :: gw, w.before args s = true) (hl : (Cond.methodLink own index y_CF_reportBits).before args s = true) (hR : 0 + 1 ≤ R.frames ∧ 8 + (1 + 11) + 0 ≤ R.locals) : CallW R s args own "FarLink$CraftFrames" index y_CF_reportBits b_CF_reportBits 1 (some .int) w_CF_reportBits ({ frames := 0, cells := 0, slots := 0, locals := 0 } : Room) 0 0 0 := ⟨callB_of 0 hts (gw_in tw_557) rfl rfl rfl (hts _ (List.mem_cons_of_mem _ tw_8)) hl hd_CF_reportBits hR, hts _ (List.mem_cons_of_mem _ tw_555), hts _ (List.mem_cons_of_mem _ tw_556)⟩
