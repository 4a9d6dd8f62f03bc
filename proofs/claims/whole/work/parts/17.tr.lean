/-! contracts: 17.tr -/
def g_TR_leastWordDue_L2 (f : Nat → Int32) (w : Nat → Int32) : Nat → Nat → Int32
  | 0, i_2 => ((nI i_2))
  | k_2 + 1, i_2 => if ((f 6) &&& (1 <<< ((nI i_2) &&& 31))) = 0 then (g_TR_leastWordDue_L2 f w k_2 (i_2 + 1)) else (((nI i_2)))
def g_TR_leastWordDue (f : Nat → Int32) (w : Nat → Int32) : Int32 :=
  (g_TR_leastWordDue_L2 f w 16 0)
set_option maxHeartbeats 4000000 in
set_option maxRecDepth 100000 in
theorem c_TR_leastWordDue (l : Launch) {D : va_G} {ad : Nat → Nat} {cA : Nat → ClassId} {st : Nat → Nat} (hi : fl_inj ad 88) {q : Nat} (hq : is_TR q) (M : fl_M) (f : Nat → Int32) (w : Nat → Int32) : Met l y_TR_leastWordDue w_TR_leastWordDue ({ frames := 0, cells := 0, slots := 0, locals := 0 } : Room) (va_Pc [.ref (ad q)] (fl_B D cls (xt cA) (xSL st) xFN xMN ad (xc ad cA) 88 (pTR M q f w))) (va_Qi (fun r M' => r = (g_TR_leastWordDue f w) ∧ M' = (pTR M q f w)) (fl_E D cls ad (xc ad cA) 88) (fl_A ad 88)) 0 0 (fl_A ad 88) := by
  refine Met.ofW (cc := b_TR_leastWordDue) (maxL := 2) (ret := (some .int)) (by decide) rfl ?_
  intro p e s m args below meth c s₁ B hml hv
  obtain ⟨rfl, hP, hK, hSt, hN⟩ := hv
  have hx := B.exec
  have hb := B.bytes
  have hr := B.returns
  have hts := atoms_spec (ws := w_TR_leastWordDue) B.pre
  have hown : s.vm.findClass "FarLink$Transaction" = some m.cls := findClass_of_methodNamed B.named
  have hlocks := B.notSynchronized
  have hS : va_S (fl_A ad 88) s.heap s.heap [] := va_S.rf
  have hl := lv_entry ([.ref (ad q)]) (n := 2) (Nat.le_of_ble_eq_true rfl)
  rw [lg_entry_eq]
  generalize (lg_sl ([.ref (ad q)]) ++ List.replicate (2 - (lg_sl ([.ref (ad q)])).length) Slot.unset).toArray = ls at hl ⊢
  have hl : lv_has ls 2 [(0, .ref (ad q))] := hl
  have hG := g_TR_leastWordDue.eq_1 f w
  refine lv_iconst (v := 0) hx hb d_TR_leastWordDue_0 (by decide) ?_
  refine lv_istore_n (lv' := [(1, .int 0), (0, .ref (ad q))]) hx hb d_TR_leastWordDue_1 rfl hl (by decide) rfl (fun ls hl => ?_)
  have lp_2 : ∀ (k_2 : Nat) (i_2 : Nat) (ls : Array Slot) (H : Heap) (locs : List Loc), i_2 + k_2 = 16 → lv_has ls 2 [(0, .ref (ad q)), (1, .int (nI i_2))] → va_P D cls (fl_w ad (xc ad cA) 88 (pTR M q f w)) H → va_S (fl_A ad 88) s.heap H locs → (∀ (v : Int32) (ls : Array Slot) (H : Heap) (locs : List Loc), v = g_TR_leastWordDue_L2 f w k_2 i_2 → lv_has ls 2 [(0, .ref (ad q)), (1, .int v)] → va_P D cls (fl_w ad (xc ad cA) 88 (pTR M q f w)) H → va_S (fl_A ad 88) s.heap H locs → W p l e (headSpec w_TR_leastWordDue ({ frames := 0, cells := 0, slots := 0, locals := 0 } : Room)).room s m ([.ref (ad q)] : List Value).toArray below meth c H locs 0 0 (MQ below (va_Qi (fun r M' => r = (g_TR_leastWordDue f w) ∧ M' = (pTR M q f w)) (fl_E D cls ad (xc ad cA) 88) (fl_A ad 88)) ([.ref (ad q)] : List Value).toArray s 0 0 (fl_A ad 88)) (F0 m 25 ls [])) → W p l e (headSpec w_TR_leastWordDue ({ frames := 0, cells := 0, slots := 0, locals := 0 } : Room)).room s m ([.ref (ad q)] : List Value).toArray below meth c H locs 0 0 (MQ below (va_Qi (fun r M' => r = (g_TR_leastWordDue f w) ∧ M' = (pTR M q f w)) (fl_E D cls ad (xc ad cA) 88) (fl_A ad 88)) ([.ref (ad q)] : List Value).toArray s 0 0 (fl_A ad 88)) (F0 m 2 ls []) := by
    intro k_2
    induction k_2 with
    | zero =>
      intro i_2 ls H locs hbd hl hP hS kk
      have hG : g_TR_leastWordDue_L2 f w 0 i_2 = _ := g_TR_leastWordDue_L2.eq_1 ..
      refine lv_iload_n hx hb d_TR_leastWordDue_2 rfl (lv_at hl 1 rfl) ?_
      refine lv_bipush (v := 16) hx hb d_TR_leastWordDue_3 (by decide) ?_
      refine lv_icmp_ge (tgt := 25) hx hb d_TR_leastWordDue_5 (by decide) (fun _ => ?_) (fun h_1 => absurd (fl_le (b := 16) rfl (by omega) (by omega)) h_1)
      have hl := lv_sub (l' := [(0, .ref (ad q)), (1, .int (nI i_2))]) hl [0, 1] rfl
      exact kk ((nI i_2)) ls _ _ hG.symm hl hP hS
    | succ k_2 ih_2 =>
      intro i_2 ls H locs hbd hl hP hS kk
      have hG : g_TR_leastWordDue_L2 f w (k_2 + 1) i_2 = _ := g_TR_leastWordDue_L2.eq_2 ..
      refine lv_iload_n hx hb d_TR_leastWordDue_2 rfl (lv_at hl 1 rfl) ?_
      refine lv_bipush (v := 16) hx hb d_TR_leastWordDue_3 (by decide) ?_
      refine lv_icmp_ge (tgt := 25) hx hb d_TR_leastWordDue_5 (by decide) (fun h_2 => absurd h_2 (fl_nle (b := 16) rfl (by omega) (by omega))) (fun _ => ?_)
      refine lv_aload_n hx hb d_TR_leastWordDue_8 rfl (lv_at hl 0 rfl) ?_
      refine gt_TR (k := 6) (v := .int (f 6)) hx hb hts hown hK hP hq (hts _ (List.mem_cons_of_mem _ tw_132)) (by decide) rfl rfl d_TR_leastWordDue_9 ?_
      refine lv_iconst (v := 1) hx hb d_TR_leastWordDue_12 (by decide) ?_
      refine lv_iload_n hx hb d_TR_leastWordDue_13 rfl (lv_at hl 1 rfl) ?_
      refine lv_ishl hx hb d_TR_leastWordDue_14 ?_
      refine lv_iand hx hb d_TR_leastWordDue_15 ?_
      refine lv_if_ne (tgt := 25) hx hb d_TR_leastWordDue_16 (by decide) (fun h_3 => ?_) (fun h_3 => ?_)
      ·
        have hG := hG.trans (if_neg h_3)
        have hl := lv_sub (l' := [(0, .ref (ad q)), (1, .int (nI i_2))]) hl [0, 1] rfl
        exact kk ((nI i_2)) ls _ _ hG.symm hl hP hS
      ·
        have hG := hG.trans (if_pos h_3)
        refine lv_iinc (k := 1) (v := nI (i_2 + 1)) (lv' := [(1, .int (nI (i_2 + 1))), (0, .ref (ad q))]) hx hb d_TR_leastWordDue_19 hl rfl (fl_inc _) (by decide) rfl (fun ls hl => ?_)
        refine lv_goto (tgt := 2) hx hb d_TR_leastWordDue_22 (by decide) ?_
        have hl := lv_sub (l' := [(0, .ref (ad q)), (1, .int (nI (i_2 + 1)))]) hl [1, 0] rfl
        exact ih_2 (i_2 + 1) ls _ _ (by omega) hl hP hS (fun v ls H locs hv => kk v ls H locs (hv.trans hG.symm))
  have hl := lv_sub (l' := [(0, .ref (ad q)), (1, .int (nI 0))]) hl [1, 0] rfl
  refine lp_2 16 0 ls _ _ (by omega) hl hP hS (fun v ls H locs hv hl hP hS => ?_)
  subst hv
  refine lv_iload_n hx hb d_TR_leastWordDue_25 rfl (lv_at hl 1 rfl) ?_
  exact fl_iret hx hb hr hlocks hP hS hG.symm rfl d_TR_leastWordDue_26
theorem hd_TR_leastWordDue : y_TR_leastWordDue.cls ≠ "java/lang/invoke/MethodHandle" ∧ y_TR_leastWordDue.cls ≠ "java/lang/invoke/VarHandle" ∧ (parseMethodDescriptor y_TR_leastWordDue.desc).map (fun d => d.parameters.length) = some 0 := by decide +kernel
theorem kv_TR_leastWordDue {R : Room} {s : State} {args : Array Value} {c0 : Cond} {own : String} {index : Nat} (hts : ∀ w ∈ c0 :: gw, w.before args s = true) (hl : (Cond.methodLink own index y_TR_leastWordDue).before args s = true) (hR : 0 + 1 ≤ R.frames ∧ 8 + (2 + 11) + 0 ≤ R.locals) : CallW R s args own "FarLink$Transaction" index y_TR_leastWordDue b_TR_leastWordDue 2 (some .int) w_TR_leastWordDue ({ frames := 0, cells := 0, slots := 0, locals := 0 } : Room) 0 0 0 := ⟨callB_of 0 hts (gw_in tw_678) rfl rfl rfl (hts _ (List.mem_cons_of_mem _ tw_6)) hl hd_TR_leastWordDue hR, hts _ (List.mem_cons_of_mem _ tw_677), hts _ (List.mem_cons_of_mem _ ps_TR_leastWordDue)⟩
def g_TR_begin (fv : Nat → Int32) (f : Nat → Int32) (w : Nat → Int32) (x2 : Int32) (x3 : Int32) (x4 : Int32) : (Nat → Int32) × (Nat → Int32) :=
  ((upd (upd (upd (upd (upd f 3 x2) 4 x3) 5 x4) 6 (196608 ||| (g_FL_wordsBelow x2))) 7 1), (va_cpy fv w 0 0 16))
set_option maxHeartbeats 4000000 in
set_option maxRecDepth 100000 in
theorem c_TR_begin (l : Launch) {D : va_G} {ad : Nat → Nat} {cA : Nat → ClassId} {st : Nat → Nat} (hi : fl_inj ad 88) (fv : Nat → Int32) {q : Nat} (hq : is_TR q) (M : fl_M) (f : Nat → Int32) (w : Nat → Int32) (x2 : Int32) (x3 : Int32) (x4 : Int32) {qa : Nat} (ha : is_FROW qa ∧ M.1 qa = fv) (hz4 : x4 &&& 1 = x4) : Met l y_TR_begin w_TR_begin ({ frames := 1, cells := 0, slots := 0, locals := 60 } : Room) (va_Pc [.ref (ad q), .ref (ad qa), .int x2, .int x3, .int x4] (fl_B D cls (xt cA) (xSL st) xFN xMN ad (xc ad cA) 88 (pTR M q f w))) (va_Qv (fun M' => M' = (pTR M q ((g_TR_begin fv f w x2 x3 x4).1) ((g_TR_begin fv f w x2 x3 x4).2))) (fl_E D cls ad (xc ad cA) 88) (fl_A ad 88)) 0 0 (fl_A ad 88) := by
  refine Met.ofW (cc := b_TR_begin) (maxL := 5) (ret := none) (by decide) rfl ?_
  intro p e s m args below meth c s₁ B hml hv
  obtain ⟨rfl, hP, hK, hSt, hN⟩ := hv
  have hx := B.exec
  have hb := B.bytes
  have hr := B.returns
  have hts := atoms_spec (ws := w_TR_begin) B.pre
  have hown : s.vm.findClass "FarLink$Transaction" = some m.cls := findClass_of_methodNamed B.named
  have hlocks := B.notSynchronized
  have hS : va_S (fl_A ad 88) s.heap s.heap [] := va_S.rf
  have hl := lv_entry ([.ref (ad q), .ref (ad qa), .int x2, .int x3, .int x4]) (n := 5) (Nat.le_of_ble_eq_true rfl)
  rw [lg_entry_eq]
  generalize (lg_sl ([.ref (ad q), .ref (ad qa), .int x2, .int x3, .int x4]) ++ List.replicate (5 - (lg_sl ([.ref (ad q), .ref (ad qa), .int x2, .int x3, .int x4])).length) Slot.unset).toArray = ls at hl ⊢
  have hl : lv_has ls 5 [(0, .ref (ad q)), (1, .ref (ad qa)), (2, .int x2), (3, .int x3), (4, .int x4)] := hl
  have hG := g_TR_begin.eq_1 fv f w x2 x3 x4
  refine lv_aload_n hx hb d_TR_begin_0 rfl (lv_at hl 1 rfl) ?_
  refine lv_iconst (v := 0) hx hb d_TR_begin_1 (by decide) ?_
  refine lv_aload_n hx hb d_TR_begin_2 rfl (lv_at hl 0 rfl) ?_
  refine gt_TR (k := 2) (v := .ref (ad (q + 1))) hx hb hts hown hK hP hq (hts _ (List.mem_cons_of_mem _ tw_127)) (by decide) rfl rfl d_TR_begin_3 ?_
  refine lv_iconst (v := 0) hx hb d_TR_begin_6 (by decide) ?_
  refine lv_bipush (v := 16) hx hb d_TR_begin_7 (by decide) ?_
  refine cp_TR hx hb (hml.trans hl.1.symm) hown (hts _ (List.mem_cons_of_mem _ tw_320)) (hts _ (List.mem_cons_of_mem _ tw_322)) (hts _ (List.mem_cons_of_mem _ tw_321)) (hts _ (List.mem_cons_of_mem _ tw_11)) hK hi hP hS hq ha (Nat.le_of_ble_eq_true rfl) (Nat.le_of_ble_eq_true rfl) d_TR_begin_9 (fun H locs hP hS => ?_)
  refine lv_aload_n hx hb d_TR_begin_12 rfl (lv_at hl 0 rfl) ?_
  refine lv_iload_n hx hb d_TR_begin_13 rfl (lv_at hl 2 rfl) ?_
  refine pt_TR (k := 3) hx hb hts hown hK hi hP hS hq (hts _ (List.mem_cons_of_mem _ tw_128)) (by decide) rfl rfl rfl rfl (Nat.le_of_ble_eq_true rfl) rfl d_TR_begin_14 (fun H locs hP hS => ?_)
  refine lv_aload_n hx hb d_TR_begin_17 rfl (lv_at hl 0 rfl) ?_
  refine lv_iload_n hx hb d_TR_begin_18 rfl (lv_at hl 3 rfl) ?_
  refine pt_TR (k := 4) hx hb hts hown hK hi hP hS hq (hts _ (List.mem_cons_of_mem _ tw_129)) (by decide) rfl rfl rfl rfl (Nat.le_of_ble_eq_true rfl) rfl d_TR_begin_19 (fun H locs hP hS => ?_)
  refine lv_aload_n hx hb d_TR_begin_22 rfl (lv_at hl 0 rfl) ?_
  refine lv_iload hx hb d_TR_begin_23 (lv_at hl 4 rfl) ?_
  refine pt_TR (k := 5) hx hb hts hown hK hi hP hS hq (hts _ (List.mem_cons_of_mem _ tw_130)) (by decide) rfl rfl (congrArg Value.int (by assumption)) (fl_zfit (by assumption)) (Nat.le_of_ble_eq_true rfl) rfl d_TR_begin_25 (fun H locs hP hS => ?_)
  refine lv_aload_n hx hb d_TR_begin_28 rfl (lv_at hl 0 rfl) ?_
  refine lv_ldc (v := 196608) hx hb hown (hts _ (List.mem_cons_of_mem _ tw_323)) d_TR_begin_29 ?_
  refine lv_aload_n hx hb d_TR_begin_31 rfl (lv_at hl 0 rfl) ?_
  refine gt_TR (k := 3) (v := .int x2) hx hb hts hown hK hP hq (hts _ (List.mem_cons_of_mem _ tw_128)) (by decide) rfl rfl d_TR_begin_32 ?_
  refine fl_calli (va_runSN (As := [.int x2]) (rest := [.int 196608, .ref (ad q)]) ⟨hx, hb, hml, hown, hts⟩ (c_FL_wordsBelow l hi (pTR M q (upd (upd (upd f 3 x2) 4 x3) 5 x4) (va_cpy fv w 0 0 16)) x2) (kn_FL_wordsBelow hts (hN.m 1 rfl) ⟨Nat.le_of_ble_eq_true rfl, Nat.le_of_ble_eq_true rfl⟩) (fl_preS hK hSt hN hS hP) rfl rfl hl.1 rfl (lv_room (Nat.le_of_ble_eq_true rfl)) d_TR_begin_35 ⟨Nat.zero_le _, Nat.zero_le _⟩) hS (fun H locs hP hS => ?_)
  refine lv_ior hx hb d_TR_begin_38 ?_
  refine pt_TR (k := 6) hx hb hts hown hK hi hP hS hq (hts _ (List.mem_cons_of_mem _ tw_132)) (by decide) rfl rfl rfl rfl (Nat.le_of_ble_eq_true rfl) rfl d_TR_begin_39 (fun H locs hP hS => ?_)
  refine lv_aload_n hx hb d_TR_begin_42 rfl (lv_at hl 0 rfl) ?_
  refine lv_iconst (v := 1) hx hb d_TR_begin_43 (by decide) ?_
  refine pt_TR (k := 7) hx hb hts hown hK hi hP hS hq (hts _ (List.mem_cons_of_mem _ tw_133)) (by decide) rfl rfl rfl rfl (Nat.le_of_ble_eq_true rfl) rfl d_TR_begin_44 (fun H locs hP hS => ?_)
  exact fl_vret hx hb hr hlocks hP hS (by rw [hG]) d_TR_begin_47
theorem hd_TR_begin : y_TR_begin.cls ≠ "java/lang/invoke/MethodHandle" ∧ y_TR_begin.cls ≠ "java/lang/invoke/VarHandle" ∧ (parseMethodDescriptor y_TR_begin.desc).map (fun d => d.parameters.length) = some 4 := by decide +kernel
theorem kv_TR_begin {R : Room} {s : State} {args : Array Value} {c0 : Cond} {own : String} {index : Nat} (hts : ∀ w ∈ c0 :: gw, w.before args s = true) (hl : (Cond.methodLink own index y_TR_begin).before args s = true) (hR : 1 + 1 ≤ R.frames ∧ 8 + (5 + 11) + 60 ≤ R.locals) : CallW R s args own "FarLink$Transaction" index y_TR_begin b_TR_begin 5 none w_TR_begin ({ frames := 1, cells := 0, slots := 0, locals := 60 } : Room) 0 0 4 := ⟨callB_of 4 hts (gw_in tw_319) rfl rfl rfl (hts _ (List.mem_cons_of_mem _ tw_6)) hl hd_TR_begin hR, hts _ (List.mem_cons_of_mem _ tw_317), hts _ (List.mem_cons_of_mem _ tw_318)⟩
