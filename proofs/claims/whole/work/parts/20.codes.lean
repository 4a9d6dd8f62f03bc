/-! contracts: 20.codes -/
def j_p4 (k : Nat) : Int32 := nI (4 * k) - 4
theorem p4_all : ∀ k, k < 16 → j_p4 (k + 1) + Int32.ofInt (-4) = j_p4 k ∧ ¬ j_p4 (k + 1) < 0 := by decide +kernel
theorem tm_all : ∀ i, i < 16 → ∀ j, j < 16 → ¬ ((tb2 i + tb2 j) - (tb2 i + tb2 j) / 15 * 15 < 0 ∨ 15 ≤ ((tb2 i + tb2 j) - (tb2 i + tb2 j) / 15 * 15).toNatClampNeg) := by decide +kernel
theorem ov_all : ∀ i, i < 16 → ∀ j, j < 16 → ¬ (((tb2 i + 15) - tb2 j) - ((tb2 i + 15) - tb2 j) / 15 * 15 < 0 ∨ 15 ≤ (((tb2 i + 15) - tb2 j) - ((tb2 i + 15) - tb2 j) / 15 * 15).toNatClampNeg) := by decide +kernel
theorem ex_all : ∀ i, i < 5 → ∀ j, j < 4 → ¬ ((nI i * nI j) - (nI i * nI j) / 15 * 15 < 0 ∨ 15 ≤ ((nI i * nI j) - (nI i * nI j) / 15 * 15).toNatClampNeg) := by decide +kernel
theorem nib (a : Int32) : ∃ i : Nat, i < 16 ∧ (a &&& 15).toNatClampNeg = i := by
  obtain ⟨i, hi, e⟩ := pk_andE a (m := 15) 4 rfl
  exact ⟨i, hi, by rw [e, nI_clamp (by omega)]⟩
theorem tm_in (a b : Int32) : vp_in ((tb2 (a &&& 15).toNatClampNeg + tb2 (b &&& 15).toNatClampNeg) - (tb2 (a &&& 15).toNatClampNeg + tb2 (b &&& 15).toNatClampNeg) / 15 * 15) 15 := by
  obtain ⟨i, hi, e1⟩ := nib a
  obtain ⟨j, hj, e2⟩ := nib b
  rw [e1, e2]
  exact tm_all i hi j hj
theorem ov_in (a b : Int32) : vp_in (((tb2 (a &&& 15).toNatClampNeg + 15) - tb2 (b &&& 15).toNatClampNeg) - ((tb2 (a &&& 15).toNatClampNeg + 15) - tb2 (b &&& 15).toNatClampNeg) / 15 * 15) 15 := by
  obtain ⟨i, hi, e1⟩ := nib a
  obtain ⟨j, hj, e2⟩ := nib b
  rw [e1, e2]
  exact ov_all i hi j hj
theorem ex_in {x : Int32} {j : Nat} (h : ∃ e : Nat, e < 5 ∧ x = nI e) (hj : j < 4) : vp_in ((x * nI j) - (x * nI j) / 15 * 15) 15 := by
  obtain ⟨e, he, rfl⟩ := h
  exact ex_all e he j hj
theorem fb_in (x : Int64) (y : Int32) : vp_in (g_FL_fourBitsAt x y) 16 := by
  unfold g_FL_fourBitsAt
  exact fl_in15 _
def g_DV_rest_L15 (tf : Nat → Int32) (n4 : Nat) (x1 : Int64) (x2 : Int32) (x3 : Int32) : Nat → Int32 → Int32
  | 0, rs => (rs)
  | k_15 + 1, rs => g_DV_rest_L15 tf n4 x1 x2 x3 k_15 (((rs <<< (4 &&& 31)) &&& ((1 <<< (x3 &&& 31)) - 1)) ^^^ (tf (((j_iushr rs (x3 - 4)) ^^^ (g_FL_fourBitsAt x1 (j_p4 (k_15 + 1)))) &&& 15).toNatClampNeg))
def g_DV_rest (tf : Nat → Int32) (n4 : Nat) (x1 : Int64) (x2 : Int32) (x3 : Int32) : Int32 :=
  (g_DV_rest_L15 tf n4 x1 x2 x3 n4 0)
set_option maxHeartbeats 4000000 in
set_option maxRecDepth 100000 in
theorem c_DV_rest (l : Launch) {D : va_G} {ad : Nat → Nat} {cA : Nat → ClassId} {st : Nat → Nat} (hi : fl_inj ad 88) (tf : Nat → Int32) (n4 : Nat) (M : fl_M) (x1 : Int64) (x2 : Int32) (x3 : Int32) {ta jt : Nat} {Ct nt : String} (hj : (xSL st)[jt]? = some (Ct, nt, ta, 16, tf)) (hx2 : x2 = nI (4 * n4)) (hn4 : n4 ≤ 15) : Met l y_DV_rest w_DV_rest ({ frames := 1, cells := 0, slots := 0, locals := 22 } : Room) (va_Pc [.long x1, .int x2, .int x3, .ref ta] (fl_B D cls (xt cA) (xSL st) xFN xMN ad (xc ad cA) 88 M)) (va_Qi (fun r M' => r = (g_DV_rest tf n4 x1 x2 x3) ∧ M' = M) (fl_E D cls ad (xc ad cA) 88) (fl_A ad 88)) 0 0 (fl_A ad 88) := by
  refine Met.ofW (cc := b_DV_rest) (maxL := 10) (ret := (some .int)) (by decide) rfl ?_
  intro p e s m args below meth c s₁ B hml hv
  obtain ⟨rfl, hP, hK, hSt, hN⟩ := hv
  have hx := B.exec
  have hb := B.bytes
  have hr := B.returns
  have hts := atoms_spec (ws := w_DV_rest) B.pre
  have hown : s.vm.findClass "FarLink$Division" = some m.cls := findClass_of_methodNamed B.named
  have hlocks := B.notSynchronized
  have hS : va_S (fl_A ad 88) s.heap s.heap [] := va_S.rf
  have hl := lv_entry ([.long x1, .int x2, .int x3, .ref ta]) (n := 10) (Nat.le_of_ble_eq_true rfl)
  rw [lg_entry_eq]
  generalize (lg_sl ([.long x1, .int x2, .int x3, .ref ta]) ++ List.replicate (10 - (lg_sl ([.long x1, .int x2, .int x3, .ref ta])).length) Slot.unset).toArray = ls at hl ⊢
  have hl : lv_has ls 10 [(0, .long x1), (2, .int x2), (3, .int x3), (4, .ref ta)] := hl
  have hG := g_DV_rest.eq_1 tf n4 x1 x2 x3
  refine lv_iconst (v := 1) hx hb d_DV_rest_0 (by decide) ?_
  refine lv_iload_n hx hb d_DV_rest_1 rfl (lv_at hl 2 rfl) ?_
  refine lv_ishl hx hb d_DV_rest_2 ?_
  refine lv_iconst (v := 1) hx hb d_DV_rest_3 (by decide) ?_
  refine lv_isub hx hb d_DV_rest_4 ?_
  refine lv_istore (lv' := [(5, .int ((1 <<< (x3 &&& 31)) - 1)), (0, .long x1), (2, .int x2), (3, .int x3), (4, .ref ta)]) hx hb d_DV_rest_5 hl (by decide) rfl (fun ls hl => ?_)
  refine lv_iconst (v := 0) hx hb d_DV_rest_7 (by decide) ?_
  refine lv_istore (lv' := [(6, .int 0), (5, .int ((1 <<< (x3 &&& 31)) - 1)), (0, .long x1), (2, .int x2), (3, .int x3), (4, .ref ta)]) hx hb d_DV_rest_8 hl (by decide) rfl (fun ls hl => ?_)
  refine lv_iload_n hx hb d_DV_rest_10 rfl (lv_at hl 3 rfl) ?_
  refine lv_iconst (v := 4) hx hb d_DV_rest_11 (by decide) ?_
  refine lv_isub hx hb d_DV_rest_12 ?_
  refine lv_istore (lv' := [(7, .int (x2 - 4)), (6, .int 0), (5, .int ((1 <<< (x3 &&& 31)) - 1)), (0, .long x1), (2, .int x2), (3, .int x3), (4, .ref ta)]) hx hb d_DV_rest_13 hl (by decide) rfl (fun ls hl => ?_)
  have lp_15 : ∀ (k_15 : Nat) (rs : Int32) (ls : Array Slot) (H : Heap) (locs : List Loc), k_15 ≤ n4 → lv_has ls 10 [(0, .long x1), (2, .int x2), (3, .int x3), (4, .ref ta), (5, .int ((1 <<< (x3 &&& 31)) - 1)), (6, .int rs), (7, .int (j_p4 k_15))] → va_P D cls (fl_w ad (xc ad cA) 88 M) H → va_S (fl_A ad 88) s.heap H locs → (∀ (v : Int32) (ls : Array Slot) (H : Heap) (locs : List Loc), v = g_DV_rest_L15 tf n4 x1 x2 x3 k_15 rs → lv_has ls 10 [(0, .long x1), (2, .int x2), (3, .int x3), (4, .ref ta), (5, .int ((1 <<< (x3 &&& 31)) - 1)), (6, .int v)] → va_P D cls (fl_w ad (xc ad cA) 88 M) H → va_S (fl_A ad 88) s.heap H locs → W p l e (headSpec w_DV_rest ({ frames := 1, cells := 0, slots := 0, locals := 22 } : Room)).room s m ([.long x1, .int x2, .int x3, .ref ta] : List Value).toArray below meth c H locs 0 0 (MQ below (va_Qi (fun r M' => r = (g_DV_rest tf n4 x1 x2 x3) ∧ M' = M) (fl_E D cls ad (xc ad cA) 88) (fl_A ad 88)) ([.long x1, .int x2, .int x3, .ref ta] : List Value).toArray s 0 0 (fl_A ad 88)) (F0 m 63 ls [])) → W p l e (headSpec w_DV_rest ({ frames := 1, cells := 0, slots := 0, locals := 22 } : Room)).room s m ([.long x1, .int x2, .int x3, .ref ta] : List Value).toArray below meth c H locs 0 0 (MQ below (va_Qi (fun r M' => r = (g_DV_rest tf n4 x1 x2 x3) ∧ M' = M) (fl_E D cls ad (xc ad cA) 88) (fl_A ad 88)) ([.long x1, .int x2, .int x3, .ref ta] : List Value).toArray s 0 0 (fl_A ad 88)) (F0 m 15 ls []) := by
    intro k_15
    induction k_15 with
    | zero =>
      intro rs ls H locs hbd hl hP hS kk
      have hG : g_DV_rest_L15 tf n4 x1 x2 x3 0 rs = _ := g_DV_rest_L15.eq_1 ..
      refine lv_iload hx hb d_DV_rest_15 (lv_at hl 6 rfl) ?_
      refine lv_if_lt (tgt := 63) hx hb d_DV_rest_17 (by decide) (fun _ => ?_) (fun h_1 => absurd (by decide) h_1)
      have hl := lv_sub (l' := [(0, .long x1), (2, .int x2), (3, .int x3), (4, .ref ta), (5, .int ((1 <<< (x3 &&& 31)) - 1)), (6, .int rs)]) hl [0, 1, 2, 3, 4, 5] rfl
      exact kk (rs) ls _ _ hG.symm hl hP hS
    | succ k_15 ih_15 =>
      intro rs ls H locs hbd hl hP hS kk
      have hG : g_DV_rest_L15 tf n4 x1 x2 x3 (k_15 + 1) rs = _ := g_DV_rest_L15.eq_2 ..
      refine lv_iload hx hb d_DV_rest_15 (lv_at hl 6 rfl) ?_
      refine lv_if_lt (tgt := 63) hx hb d_DV_rest_17 (by decide) (fun h_2 => absurd h_2 ((p4_all _ (by omega)).2)) (fun _ => ?_)
      refine lv_iload hx hb d_DV_rest_20 (lv_at hl 5 rfl) ?_
      refine lv_iload_n hx hb d_DV_rest_22 rfl (lv_at hl 2 rfl) ?_
      refine lv_iconst (v := 4) hx hb d_DV_rest_23 (by decide) ?_
      refine lv_isub hx hb d_DV_rest_24 ?_
      refine lv_iushr (v := j_iushr rs (x3 - 4)) hx hb d_DV_rest_25 rfl ?_
      refine lv_istore (lv' := [(8, .int (j_iushr rs (x3 - 4))), (0, .long x1), (2, .int x2), (3, .int x3), (4, .ref ta), (5, .int ((1 <<< (x3 &&& 31)) - 1)), (6, .int rs), (7, .int (j_p4 (k_15 + 1)))]) hx hb d_DV_rest_26 hl (by decide) rfl (fun ls hl => ?_)
      refine lv_iload hx hb d_DV_rest_28 (lv_at hl 0 rfl) ?_
      refine lv_lload_n hx hb d_DV_rest_30 rfl (lv_at hl 1 rfl) ?_
      refine lv_iload hx hb d_DV_rest_31 (lv_at hl 7 rfl) ?_
      refine fl_calli (va_runSN (As := [.long x1, .int (j_p4 (k_15 + 1))]) (rest := [.int (j_iushr rs (x3 - 4))]) ⟨hx, hb, hml, hown, hts⟩ (c_FL_fourBitsAt l hi M x1 (j_p4 (k_15 + 1))) (kn_FL_fourBitsAt hts (hN.m 3 rfl) ⟨Nat.le_of_ble_eq_true rfl, Nat.le_of_ble_eq_true rfl⟩) (fl_preS hK hSt hN hS hP) rfl rfl hl.1 rfl (lv_room (Nat.le_of_ble_eq_true rfl)) d_DV_rest_33 ⟨Nat.zero_le _, Nat.zero_le _⟩) hS (fun H locs hP hS => ?_)
      refine lv_ixor hx hb d_DV_rest_36 ?_
      refine lv_bipush (v := 15) hx hb d_DV_rest_37 (by decide) ?_
      refine lv_iand hx hb d_DV_rest_39 ?_
      refine lv_istore (lv' := [(9, .int (((j_iushr rs (x3 - 4)) ^^^ (g_FL_fourBitsAt x1 (j_p4 (k_15 + 1)))) &&& 15)), (8, .int (j_iushr rs (x3 - 4))), (0, .long x1), (2, .int x2), (3, .int x3), (4, .ref ta), (5, .int ((1 <<< (x3 &&& 31)) - 1)), (6, .int rs), (7, .int (j_p4 (k_15 + 1)))]) hx hb d_DV_rest_40 hl (by decide) rfl (fun ls hl => ?_)
      refine lv_iload hx hb d_DV_rest_42 (lv_at hl 7 rfl) ?_
      refine lv_iconst (v := 4) hx hb d_DV_rest_44 (by decide) ?_
      refine lv_ishl hx hb d_DV_rest_45 ?_
      refine lv_iload hx hb d_DV_rest_46 (lv_at hl 6 rfl) ?_
      refine lv_iand hx hb d_DV_rest_48 ?_
      refine lv_aload hx hb d_DV_rest_49 (lv_at hl 5 rfl) ?_
      refine lv_iload hx hb d_DV_rest_51 (lv_at hl 0 rfl) ?_
      refine fl_tab hx hb (hSt _ (List.mem_of_getElem? hj)).2 hS (fl_in15 _) d_DV_rest_53 ?_
      refine lv_ixor hx hb d_DV_rest_54 ?_
      refine lv_istore (lv' := [(6, .int (((rs <<< (4 &&& 31)) &&& ((1 <<< (x3 &&& 31)) - 1)) ^^^ (tf (((j_iushr rs (x3 - 4)) ^^^ (g_FL_fourBitsAt x1 (j_p4 (k_15 + 1)))) &&& 15).toNatClampNeg))), (9, .int (((j_iushr rs (x3 - 4)) ^^^ (g_FL_fourBitsAt x1 (j_p4 (k_15 + 1)))) &&& 15)), (8, .int (j_iushr rs (x3 - 4))), (0, .long x1), (2, .int x2), (3, .int x3), (4, .ref ta), (5, .int ((1 <<< (x3 &&& 31)) - 1)), (7, .int (j_p4 (k_15 + 1)))]) hx hb d_DV_rest_55 hl (by decide) rfl (fun ls hl => ?_)
      refine lv_iinc (k := 8) (v := j_p4 k_15) (lv' := [(7, .int (j_p4 k_15)), (6, .int (((rs <<< (4 &&& 31)) &&& ((1 <<< (x3 &&& 31)) - 1)) ^^^ (tf (((j_iushr rs (x3 - 4)) ^^^ (g_FL_fourBitsAt x1 (j_p4 (k_15 + 1)))) &&& 15).toNatClampNeg))), (9, .int (((j_iushr rs (x3 - 4)) ^^^ (g_FL_fourBitsAt x1 (j_p4 (k_15 + 1)))) &&& 15)), (8, .int (j_iushr rs (x3 - 4))), (0, .long x1), (2, .int x2), (3, .int x3), (4, .ref ta), (5, .int ((1 <<< (x3 &&& 31)) - 1))]) hx hb d_DV_rest_57 hl rfl ((p4_all _ (by omega)).1) (by decide) rfl (fun ls hl => ?_)
      refine lv_goto (tgt := 15) hx hb d_DV_rest_60 (by decide) ?_
      have hl := lv_sub (l' := [(0, .long x1), (2, .int x2), (3, .int x3), (4, .ref ta), (5, .int ((1 <<< (x3 &&& 31)) - 1)), (6, .int (((rs <<< (4 &&& 31)) &&& ((1 <<< (x3 &&& 31)) - 1)) ^^^ (tf (((j_iushr rs (x3 - 4)) ^^^ (g_FL_fourBitsAt x1 (j_p4 (k_15 + 1)))) &&& 15).toNatClampNeg))), (7, .int (j_p4 k_15))]) hl [4, 5, 6, 7, 8, 1, 0] rfl
      exact ih_15 (((rs <<< (4 &&& 31)) &&& ((1 <<< (x3 &&& 31)) - 1)) ^^^ (tf (((j_iushr rs (x3 - 4)) ^^^ (g_FL_fourBitsAt x1 (j_p4 (k_15 + 1)))) &&& 15).toNatClampNeg)) ls _ _ (by omega) hl hP hS (fun v ls H locs hv => kk v ls H locs (hv.trans hG.symm))
  rw [show x2 - 4 = j_p4 n4 from by rw [hx2]; rfl] at hl
  have hl := lv_sub (l' := [(0, .long x1), (2, .int x2), (3, .int x3), (4, .ref ta), (5, .int ((1 <<< (x3 &&& 31)) - 1)), (6, .int 0), (7, .int (j_p4 n4))]) hl [3, 4, 5, 6, 2, 1, 0] rfl
  refine lp_15 n4 0 ls _ _ (by omega) hl hP hS (fun v ls H locs hv hl hP hS => ?_)
  subst hv
  refine lv_iload hx hb d_DV_rest_63 (lv_at hl 5 rfl) ?_
  exact fl_iret hx hb hr hlocks hP hS hG.symm rfl d_DV_rest_65
theorem hd_DV_rest : y_DV_rest.cls ≠ "java/lang/invoke/MethodHandle" ∧ y_DV_rest.cls ≠ "java/lang/invoke/VarHandle" ∧ (parseMethodDescriptor y_DV_rest.desc).map (fun d => d.parameters.length) = some 4 := by decide +kernel
theorem kv_DV_rest {R : Room} {s : State} {args : Array Value} {c0 : Cond} {own : String} {index : Nat} (hts : ∀ w ∈ c0 :: gw, w.before args s = true) (hl : (Cond.methodLink own index y_DV_rest).before args s = true) (hR : 1 + 1 ≤ R.frames ∧ 8 + (10 + 11) + 22 ≤ R.locals) : CallB R s args own index y_DV_rest b_DV_rest 10 (some .int) w_DV_rest ({ frames := 1, cells := 0, slots := 0, locals := 22 } : Room) 0 0 4 ∧ (Cond.static y_DV_rest).before args s = true := ⟨callB_of 4 hts (gw_in tw_398) rfl rfl rfl (hts _ (List.mem_cons_of_mem _ tw_13)) hl hd_DV_rest hR, hts _ (List.mem_cons_of_mem _ tw_397)⟩
def g_UC_blockOf (x1 : Int64) : Int64 :=
  (j_lshl (x1 &&& 72057594037927935) 7) ||| (((g_DV_rest tb0 14 (x1 &&& 72057594037927935) 56 7) ^^^ 127).toInt64)
set_option maxHeartbeats 4000000 in
set_option maxRecDepth 100000 in
theorem c_UC_blockOf (l : Launch) {D : va_G} {ad : Nat → Nat} {cA : Nat → ClassId} {st : Nat → Nat} (hi : fl_inj ad 88) (M : fl_M) (x1 : Int64) : Met l y_UC_blockOf w_UC_blockOf ({ frames := 2, cells := 0, slots := 0, locals := 51 } : Room) (va_Pc [.long x1] (fl_B D cls (xt cA) (xSL st) xFN xMN ad (xc ad cA) 88 M)) (va_Ql (fun r M' => r = (g_UC_blockOf x1) ∧ M' = M) (fl_E D cls ad (xc ad cA) 88) (fl_A ad 88)) 0 0 (fl_A ad 88) := by
  refine Met.ofW (cc := b_UC_blockOf) (maxL := 5) (ret := (some .long)) (by decide) rfl ?_
  intro p e s m args below meth c s₁ B hml hv
  obtain ⟨rfl, hP, hK, hSt, hN⟩ := hv
  have hx := B.exec
  have hb := B.bytes
  have hr := B.returns
  have hts := atoms_spec (ws := w_UC_blockOf) B.pre
  have hown : s.vm.findClass "FarLink$UpCode" = some m.cls := findClass_of_methodNamed B.named
  have hlocks := B.notSynchronized
  have hS : va_S (fl_A ad 88) s.heap s.heap [] := va_S.rf
  have hl := lv_entry ([.long x1]) (n := 5) (Nat.le_of_ble_eq_true rfl)
  rw [lg_entry_eq]
  generalize (lg_sl ([.long x1]) ++ List.replicate (5 - (lg_sl ([.long x1])).length) Slot.unset).toArray = ls at hl ⊢
  have hl : lv_has ls 5 [(0, .long x1)] := hl
  have hG := g_UC_blockOf.eq_1 x1
  refine lv_lload_n hx hb d_UC_blockOf_0 rfl (lv_at hl 0 rfl) ?_
  refine lv_ldc2 (v := 72057594037927935) hx hb hown (hts _ (List.mem_cons_of_mem _ tw_390)) d_UC_blockOf_1 ?_
  refine lv_land hx hb d_UC_blockOf_4 ?_
  refine lv_lstore_n (lv' := [(2, .long (x1 &&& 72057594037927935)), (0, .long x1)]) hx hb d_UC_blockOf_5 rfl hl (by decide) rfl (fun ls hl => ?_)
  refine lv_lload_n hx hb d_UC_blockOf_6 rfl (lv_at hl 0 rfl) ?_
  refine lv_bipush (v := 56) hx hb d_UC_blockOf_7 (by decide) ?_
  refine lv_bipush (v := 7) hx hb d_UC_blockOf_9 (by decide) ?_
  refine va_gets hx hb (hSt _ (List.mem_of_getElem? (i := 0) rfl)).1 hS hown (hts _ (List.mem_cons_of_mem _ tw_394)) (fun _ h => h) d_UC_blockOf_11 ?_
  refine fl_calli (va_runS (As := [.long (x1 &&& 72057594037927935), .int 56, .int 7, .ref (st 0)]) (rest := []) ⟨hx, hb, hml, hown, hts⟩ (c_DV_rest l hi tb0 14 M (x1 &&& 72057594037927935) 56 7 (jt := 0) rfl (rfl) (by decide)) (kv_DV_rest hts (hts _ (List.mem_cons_of_mem _ tw_396)) ⟨Nat.le_of_ble_eq_true rfl, Nat.le_of_ble_eq_true rfl⟩) (fl_preS hK hSt hN hS hP) rfl rfl hl.1 rfl (lv_room (Nat.le_of_ble_eq_true rfl)) d_UC_blockOf_14 ⟨Nat.zero_le _, Nat.zero_le _⟩) hS (fun H locs hP hS => ?_)
  refine lv_istore (lv' := [(4, .int (g_DV_rest tb0 14 (x1 &&& 72057594037927935) 56 7)), (2, .long (x1 &&& 72057594037927935)), (0, .long x1)]) hx hb d_UC_blockOf_17 hl (by decide) rfl (fun ls hl => ?_)
  refine lv_lload_n hx hb d_UC_blockOf_19 rfl (lv_at hl 1 rfl) ?_
  refine lv_bipush (v := 7) hx hb d_UC_blockOf_20 (by decide) ?_
  refine lv_lshl (v := j_lshl (x1 &&& 72057594037927935) 7) hx hb d_UC_blockOf_22 rfl ?_
  refine lv_iload hx hb d_UC_blockOf_23 (lv_at hl 0 rfl) ?_
  refine lv_bipush (v := 127) hx hb d_UC_blockOf_25 (by decide) ?_
  refine lv_ixor hx hb d_UC_blockOf_27 ?_
  refine lv_i2l (v := ((g_DV_rest tb0 14 (x1 &&& 72057594037927935) 56 7) ^^^ 127).toInt64) hx hb d_UC_blockOf_28 rfl ?_
  refine lv_lor hx hb d_UC_blockOf_29 ?_
  exact fl_lret hx hb hr hlocks hP hS hG.symm rfl d_UC_blockOf_30
theorem hd_UC_blockOf : y_UC_blockOf.cls ≠ "java/lang/invoke/MethodHandle" ∧ y_UC_blockOf.cls ≠ "java/lang/invoke/VarHandle" ∧ (parseMethodDescriptor y_UC_blockOf.desc).map (fun d => d.parameters.length) = some 1 := by decide +kernel
theorem kv_UC_blockOf {R : Room} {s : State} {args : Array Value} {c0 : Cond} {own : String} {index : Nat} (hts : ∀ w ∈ c0 :: gw, w.before args s = true) (hl : (Cond.methodLink own index y_UC_blockOf).before args s = true) (hR : 2 + 1 ≤ R.frames ∧ 8 + (5 + 11) + 51 ≤ R.locals) : CallB R s args own index y_UC_blockOf b_UC_blockOf 5 (some .long) w_UC_blockOf ({ frames := 2, cells := 0, slots := 0, locals := 51 } : Room) 0 0 1 ∧ (Cond.static y_UC_blockOf).before args s = true := ⟨callB_of 1 hts (gw_in tw_564) rfl rfl rfl (hts _ (List.mem_cons_of_mem _ tw_12)) hl hd_UC_blockOf hR, hts _ (List.mem_cons_of_mem _ tw_563)⟩
def g_UC_syndromeOf (x1 : Int64) : Int32 :=
  ((g_DV_rest tb0 14 (j_lushr x1 7) 56 7) ^^^ 127) ^^^ ((x1 &&& 127).toInt32)
set_option maxHeartbeats 4000000 in
set_option maxRecDepth 100000 in
theorem c_UC_syndromeOf (l : Launch) {D : va_G} {ad : Nat → Nat} {cA : Nat → ClassId} {st : Nat → Nat} (hi : fl_inj ad 88) (M : fl_M) (x1 : Int64) : Met l y_UC_syndromeOf w_UC_syndromeOf ({ frames := 2, cells := 0, slots := 0, locals := 51 } : Room) (va_Pc [.long x1] (fl_B D cls (xt cA) (xSL st) xFN xMN ad (xc ad cA) 88 M)) (va_Qi (fun r M' => r = (g_UC_syndromeOf x1) ∧ M' = M) (fl_E D cls ad (xc ad cA) 88) (fl_A ad 88)) 0 0 (fl_A ad 88) := by
  refine Met.ofW (cc := b_UC_syndromeOf) (maxL := 3) (ret := (some .int)) (by decide) rfl ?_
  intro p e s m args below meth c s₁ B hml hv
  obtain ⟨rfl, hP, hK, hSt, hN⟩ := hv
  have hx := B.exec
  have hb := B.bytes
  have hr := B.returns
  have hts := atoms_spec (ws := w_UC_syndromeOf) B.pre
  have hown : s.vm.findClass "FarLink$UpCode" = some m.cls := findClass_of_methodNamed B.named
  have hlocks := B.notSynchronized
  have hS : va_S (fl_A ad 88) s.heap s.heap [] := va_S.rf
  have hl := lv_entry ([.long x1]) (n := 3) (Nat.le_of_ble_eq_true rfl)
  rw [lg_entry_eq]
  generalize (lg_sl ([.long x1]) ++ List.replicate (3 - (lg_sl ([.long x1])).length) Slot.unset).toArray = ls at hl ⊢
  have hl : lv_has ls 3 [(0, .long x1)] := hl
  have hG := g_UC_syndromeOf.eq_1 x1
  refine lv_lload_n hx hb d_UC_syndromeOf_0 rfl (lv_at hl 0 rfl) ?_
  refine lv_bipush (v := 7) hx hb d_UC_syndromeOf_1 (by decide) ?_
  refine lv_lushr (v := j_lushr x1 7) hx hb d_UC_syndromeOf_3 rfl ?_
  refine lv_bipush (v := 56) hx hb d_UC_syndromeOf_4 (by decide) ?_
  refine lv_bipush (v := 7) hx hb d_UC_syndromeOf_6 (by decide) ?_
  refine va_gets hx hb (hSt _ (List.mem_of_getElem? (i := 0) rfl)).1 hS hown (hts _ (List.mem_cons_of_mem _ tw_394)) (fun _ h => h) d_UC_syndromeOf_8 ?_
  refine fl_calli (va_runS (As := [.long (j_lushr x1 7), .int 56, .int 7, .ref (st 0)]) (rest := []) ⟨hx, hb, hml, hown, hts⟩ (c_DV_rest l hi tb0 14 M (j_lushr x1 7) 56 7 (jt := 0) rfl (rfl) (by decide)) (kv_DV_rest hts (hts _ (List.mem_cons_of_mem _ tw_396)) ⟨Nat.le_of_ble_eq_true rfl, Nat.le_of_ble_eq_true rfl⟩) (fl_preS hK hSt hN hS hP) rfl rfl hl.1 rfl (lv_room (Nat.le_of_ble_eq_true rfl)) d_UC_syndromeOf_11 ⟨Nat.zero_le _, Nat.zero_le _⟩) hS (fun H locs hP hS => ?_)
  refine lv_istore_n (lv' := [(2, .int (g_DV_rest tb0 14 (j_lushr x1 7) 56 7)), (0, .long x1)]) hx hb d_UC_syndromeOf_14 rfl hl (by decide) rfl (fun ls hl => ?_)
  refine lv_iload_n hx hb d_UC_syndromeOf_15 rfl (lv_at hl 0 rfl) ?_
  refine lv_bipush (v := 127) hx hb d_UC_syndromeOf_16 (by decide) ?_
  refine lv_ixor hx hb d_UC_syndromeOf_18 ?_
  refine lv_lload_n hx hb d_UC_syndromeOf_19 rfl (lv_at hl 1 rfl) ?_
  refine lv_ldc2 (v := 127) hx hb hown (hts _ (List.mem_cons_of_mem _ tw_402)) d_UC_syndromeOf_20 ?_
  refine lv_land hx hb d_UC_syndromeOf_23 ?_
  refine lv_l2i (v := (x1 &&& 127).toInt32) hx hb d_UC_syndromeOf_24 rfl ?_
  refine lv_ixor hx hb d_UC_syndromeOf_25 ?_
  exact fl_iret hx hb hr hlocks hP hS hG.symm rfl d_UC_syndromeOf_26
theorem hd_UC_syndromeOf : y_UC_syndromeOf.cls ≠ "java/lang/invoke/MethodHandle" ∧ y_UC_syndromeOf.cls ≠ "java/lang/invoke/VarHandle" ∧ (parseMethodDescriptor y_UC_syndromeOf.desc).map (fun d => d.parameters.length) = some 1 := by decide +kernel
theorem kv_UC_syndromeOf {R : Room} {s : State} {args : Array Value} {c0 : Cond} {own : String} {index : Nat} (hts : ∀ w ∈ c0 :: gw, w.before args s = true) (hl : (Cond.methodLink own index y_UC_syndromeOf).before args s = true) (hR : 2 + 1 ≤ R.frames ∧ 8 + (3 + 11) + 51 ≤ R.locals) : CallB R s args own index y_UC_syndromeOf b_UC_syndromeOf 3 (some .int) w_UC_syndromeOf ({ frames := 2, cells := 0, slots := 0, locals := 51 } : Room) 0 0 1 ∧ (Cond.static y_UC_syndromeOf).before args s = true := ⟨callB_of 1 hts (gw_in tw_393) rfl rfl rfl (hts _ (List.mem_cons_of_mem _ tw_12)) hl hd_UC_syndromeOf hR, hts _ (List.mem_cons_of_mem _ tw_392)⟩
def g_UC_timesX (x1 : Int32) : Int32 :=
  if (x1 <<< (1 &&& 31)) ≤ 127 then (x1 <<< (1 &&& 31)) else ((x1 <<< (1 &&& 31)) ^^^ 197)
set_option maxHeartbeats 4000000 in
set_option maxRecDepth 100000 in
theorem c_UC_timesX (l : Launch) {D : va_G} {ad : Nat → Nat} {cA : Nat → ClassId} {st : Nat → Nat} (hi : fl_inj ad 88) (M : fl_M) (x1 : Int32) : Met l y_UC_timesX w_UC_timesX ({ frames := 0, cells := 0, slots := 0, locals := 0 } : Room) (va_Pc [.int x1] (fl_B D cls (xt cA) (xSL st) xFN xMN ad (xc ad cA) 88 M)) (va_Qi (fun r M' => r = (g_UC_timesX x1) ∧ M' = M) (fl_E D cls ad (xc ad cA) 88) (fl_A ad 88)) 0 0 (fl_A ad 88) := by
  refine Met.ofW (cc := b_UC_timesX) (maxL := 2) (ret := (some .int)) (by decide) rfl ?_
  intro p e s m args below meth c s₁ B hml hv
  obtain ⟨rfl, hP, hK, hSt, hN⟩ := hv
  have hx := B.exec
  have hb := B.bytes
  have hr := B.returns
  have hts := atoms_spec (ws := w_UC_timesX) B.pre
  have hown : s.vm.findClass "FarLink$UpCode" = some m.cls := findClass_of_methodNamed B.named
  have hlocks := B.notSynchronized
  have hS : va_S (fl_A ad 88) s.heap s.heap [] := va_S.rf
  have hl := lv_entry ([.int x1]) (n := 2) (Nat.le_of_ble_eq_true rfl)
  rw [lg_entry_eq]
  generalize (lg_sl ([.int x1]) ++ List.replicate (2 - (lg_sl ([.int x1])).length) Slot.unset).toArray = ls at hl ⊢
  have hl : lv_has ls 2 [(0, .int x1)] := hl
  have hG := g_UC_timesX.eq_1 x1
  refine lv_iload_n hx hb d_UC_timesX_0 rfl (lv_at hl 0 rfl) ?_
  refine lv_iconst (v := 1) hx hb d_UC_timesX_1 (by decide) ?_
  refine lv_ishl hx hb d_UC_timesX_2 ?_
  refine lv_istore_n (lv' := [(1, .int (x1 <<< (1 &&& 31))), (0, .int x1)]) hx hb d_UC_timesX_3 rfl hl (by decide) rfl (fun ls hl => ?_)
  refine lv_iload_n hx hb d_UC_timesX_4 rfl (lv_at hl 0 rfl) ?_
  refine lv_bipush (v := 127) hx hb d_UC_timesX_5 (by decide) ?_
  refine lv_icmp_le (tgt := 18) hx hb d_UC_timesX_7 (by decide) (fun h_1 => ?_) (fun h_1 => ?_)
  ·
    have hG := hG.trans (if_pos h_1)
    refine lv_iload_n hx hb d_UC_timesX_18 rfl (lv_at hl 0 rfl) ?_
    exact fl_iret hx hb hr hlocks hP hS hG.symm rfl d_UC_timesX_19
  ·
    have hG := hG.trans (if_neg h_1)
    refine lv_iload_n hx hb d_UC_timesX_10 rfl (lv_at hl 0 rfl) ?_
    refine lv_sipush (v := 197) hx hb d_UC_timesX_11 (by decide) ?_
    refine lv_ixor hx hb d_UC_timesX_14 ?_
    refine lv_goto (tgt := 19) hx hb d_UC_timesX_15 (by decide) ?_
    exact fl_iret hx hb hr hlocks hP hS hG.symm rfl d_UC_timesX_19
theorem hd_UC_timesX : y_UC_timesX.cls ≠ "java/lang/invoke/MethodHandle" ∧ y_UC_timesX.cls ≠ "java/lang/invoke/VarHandle" ∧ (parseMethodDescriptor y_UC_timesX.desc).map (fun d => d.parameters.length) = some 1 := by decide +kernel
theorem kv_UC_timesX {R : Room} {s : State} {args : Array Value} {c0 : Cond} {own : String} {index : Nat} (hts : ∀ w ∈ c0 :: gw, w.before args s = true) (hl : (Cond.methodLink own index y_UC_timesX).before args s = true) (hR : 0 + 1 ≤ R.frames ∧ 8 + (2 + 11) + 0 ≤ R.locals) : CallB R s args own index y_UC_timesX b_UC_timesX 2 (some .int) w_UC_timesX ({ frames := 0, cells := 0, slots := 0, locals := 0 } : Room) 0 0 1 ∧ (Cond.static y_UC_timesX).before args s = true := ⟨callB_of 1 hts (gw_in tw_405) rfl rfl rfl (hts _ (List.mem_cons_of_mem _ tw_12)) hl hd_UC_timesX hR, hts _ (List.mem_cons_of_mem _ tw_404)⟩
def g_UC_infoOf_L28  : Nat → Nat → Int64 → Int32 → Int32 → Int64
  | 0, i_28, inf, sy, pw => (-1)
  | k_28 + 1, i_28, inf, sy, pw => if pw = sy then (inf ^^^ (j_lushr (j_lshl 1 (nI i_28)) 7)) else (g_UC_infoOf_L28  k_28 (i_28 + 1) inf sy (g_UC_timesX pw))
def g_UC_infoOf (x1 : Int64) : Int64 :=
  if (g_UC_syndromeOf x1) = 0 then ((j_lushr x1 7) &&& 72057594037927935) else (g_UC_infoOf_L28  63 0 ((j_lushr x1 7) &&& 72057594037927935) (g_UC_syndromeOf x1) 1)
set_option maxHeartbeats 4000000 in
set_option maxRecDepth 100000 in
theorem c_UC_infoOf (l : Launch) {D : va_G} {ad : Nat → Nat} {cA : Nat → ClassId} {st : Nat → Nat} (hi : fl_inj ad 88) (M : fl_M) (x1 : Int64) : Met l y_UC_infoOf w_UC_infoOf ({ frames := 3, cells := 0, slots := 0, locals := 73 } : Room) (va_Pc [.long x1] (fl_B D cls (xt cA) (xSL st) xFN xMN ad (xc ad cA) 88 M)) (va_Ql (fun r M' => r = (g_UC_infoOf x1) ∧ M' = M) (fl_E D cls ad (xc ad cA) 88) (fl_A ad 88)) 0 0 (fl_A ad 88) := by
  refine Met.ofW (cc := b_UC_infoOf) (maxL := 7) (ret := (some .long)) (by decide) rfl ?_
  intro p e s m args below meth c s₁ B hml hv
  obtain ⟨rfl, hP, hK, hSt, hN⟩ := hv
  have hx := B.exec
  have hb := B.bytes
  have hr := B.returns
  have hts := atoms_spec (ws := w_UC_infoOf) B.pre
  have hown : s.vm.findClass "FarLink$UpCode" = some m.cls := findClass_of_methodNamed B.named
  have hlocks := B.notSynchronized
  have hS : va_S (fl_A ad 88) s.heap s.heap [] := va_S.rf
  have hl := lv_entry ([.long x1]) (n := 7) (Nat.le_of_ble_eq_true rfl)
  rw [lg_entry_eq]
  generalize (lg_sl ([.long x1]) ++ List.replicate (7 - (lg_sl ([.long x1])).length) Slot.unset).toArray = ls at hl ⊢
  have hl : lv_has ls 7 [(0, .long x1)] := hl
  have hG := g_UC_infoOf.eq_1 x1
  refine lv_lload_n hx hb d_UC_infoOf_0 rfl (lv_at hl 0 rfl) ?_
  refine lv_bipush (v := 7) hx hb d_UC_infoOf_1 (by decide) ?_
  refine lv_lushr (v := j_lushr x1 7) hx hb d_UC_infoOf_3 rfl ?_
  refine lv_ldc2 (v := 72057594037927935) hx hb hown (hts _ (List.mem_cons_of_mem _ tw_390)) d_UC_infoOf_4 ?_
  refine lv_land hx hb d_UC_infoOf_7 ?_
  refine lv_lstore_n (lv' := [(2, .long ((j_lushr x1 7) &&& 72057594037927935)), (0, .long x1)]) hx hb d_UC_infoOf_8 rfl hl (by decide) rfl (fun ls hl => ?_)
  refine lv_lload_n hx hb d_UC_infoOf_9 rfl (lv_at hl 1 rfl) ?_
  refine fl_calli (va_runS (As := [.long x1]) (rest := []) ⟨hx, hb, hml, hown, hts⟩ (c_UC_syndromeOf l hi M x1) (kv_UC_syndromeOf hts (hts _ (List.mem_cons_of_mem _ tw_391)) ⟨Nat.le_of_ble_eq_true rfl, Nat.le_of_ble_eq_true rfl⟩) (fl_preS hK hSt hN hS hP) rfl rfl hl.1 rfl (lv_room (Nat.le_of_ble_eq_true rfl)) d_UC_infoOf_10 ⟨Nat.zero_le _, Nat.zero_le _⟩) hS (fun H locs hP hS => ?_)
  refine lv_istore (lv' := [(4, .int (g_UC_syndromeOf x1)), (2, .long ((j_lushr x1 7) &&& 72057594037927935)), (0, .long x1)]) hx hb d_UC_infoOf_13 hl (by decide) rfl (fun ls hl => ?_)
  refine lv_iload hx hb d_UC_infoOf_15 (lv_at hl 0 rfl) ?_
  refine lv_if_ne (tgt := 22) hx hb d_UC_infoOf_17 (by decide) (fun h_1 => ?_) (fun h_1 => ?_)
  ·
    have hG := hG.trans (if_neg h_1)
    refine lv_iconst (v := 1) hx hb d_UC_infoOf_22 (by decide) ?_
    refine lv_istore (lv' := [(5, .int 1), (4, .int (g_UC_syndromeOf x1)), (2, .long ((j_lushr x1 7) &&& 72057594037927935)), (0, .long x1)]) hx hb d_UC_infoOf_23 hl (by decide) rfl (fun ls hl => ?_)
    refine lv_iconst (v := 0) hx hb d_UC_infoOf_25 (by decide) ?_
    refine lv_istore (lv' := [(6, .int 0), (5, .int 1), (4, .int (g_UC_syndromeOf x1)), (2, .long ((j_lushr x1 7) &&& 72057594037927935)), (0, .long x1)]) hx hb d_UC_infoOf_26 hl (by decide) rfl (fun ls hl => ?_)
    have lp_28 : ∀ (k_28 : Nat) (i_28 : Nat) (inf : Int64) (sy : Int32) (pw : Int32) (ls : Array Slot) (H : Heap) (locs : List Loc), i_28 + k_28 = 63 → lv_has ls 7 [(2, .long inf), (4, .int sy), (5, .int pw), (6, .int (nI i_28))] → va_P D cls (fl_w ad (xc ad cA) 88 M) H → va_S (fl_A ad 88) s.heap H locs → g_UC_infoOf x1 = g_UC_infoOf_L28  k_28 i_28 inf sy pw → W p l e (headSpec w_UC_infoOf ({ frames := 3, cells := 0, slots := 0, locals := 73 } : Room)).room s m ([.long x1] : List Value).toArray below meth c H locs 0 0 (MQ below (va_Ql (fun r M' => r = (g_UC_infoOf x1) ∧ M' = M) (fl_E D cls ad (xc ad cA) 88) (fl_A ad 88)) ([.long x1] : List Value).toArray s 0 0 (fl_A ad 88)) (F0 m 28 ls []) := by
      intro k_28
      induction k_28 with
      | zero =>
        intro i_28 inf sy pw ls H locs hbd hl hP hS hG
        have hG := hG.trans (g_UC_infoOf_L28.eq_1 ..)
        refine lv_iload hx hb d_UC_infoOf_28 (lv_at hl 3 rfl) ?_
        refine lv_bipush (v := 63) hx hb d_UC_infoOf_30 (by decide) ?_
        refine lv_icmp_ge (tgt := 65) hx hb d_UC_infoOf_32 (by decide) (fun _ => ?_) (fun h_2 => absurd (fl_le (b := 63) rfl (by omega) (by omega)) h_2)
        refine lv_ldc2 (v := -1) hx hb hown (hts _ (List.mem_cons_of_mem _ tw_406)) d_UC_infoOf_65 ?_
        exact fl_lret hx hb hr hlocks hP hS hG.symm rfl d_UC_infoOf_68
      | succ k_28 ih_28 =>
        intro i_28 inf sy pw ls H locs hbd hl hP hS hG
        have hG := hG.trans (g_UC_infoOf_L28.eq_2 ..)
        refine lv_iload hx hb d_UC_infoOf_28 (lv_at hl 3 rfl) ?_
        refine lv_bipush (v := 63) hx hb d_UC_infoOf_30 (by decide) ?_
        refine lv_icmp_ge (tgt := 65) hx hb d_UC_infoOf_32 (by decide) (fun h_3 => absurd h_3 (fl_nle (b := 63) rfl (by omega) (by omega))) (fun _ => ?_)
        refine lv_iload hx hb d_UC_infoOf_35 (lv_at hl 2 rfl) ?_
        refine lv_iload hx hb d_UC_infoOf_37 (lv_at hl 1 rfl) ?_
        refine lv_icmp_ne (tgt := 52) hx hb d_UC_infoOf_39 (by decide) (fun h_4 => ?_) (fun h_4 => ?_)
        ·
          have hG := hG.trans (if_neg h_4)
          refine lv_iload hx hb d_UC_infoOf_52 (lv_at hl 2 rfl) ?_
          refine fl_calli (va_runS (As := [.int pw]) (rest := []) ⟨hx, hb, hml, hown, hts⟩ (c_UC_timesX l hi M pw) (kv_UC_timesX hts (hts _ (List.mem_cons_of_mem _ tw_403)) ⟨Nat.le_of_ble_eq_true rfl, Nat.le_of_ble_eq_true rfl⟩) (fl_preS hK hSt hN hS hP) rfl rfl hl.1 rfl (lv_room (Nat.le_of_ble_eq_true rfl)) d_UC_infoOf_54 ⟨Nat.zero_le _, Nat.zero_le _⟩) hS (fun H locs hP hS => ?_)
          refine lv_istore (lv' := [(5, .int (g_UC_timesX pw)), (2, .long inf), (4, .int sy), (6, .int (nI i_28))]) hx hb d_UC_infoOf_57 hl (by decide) rfl (fun ls hl => ?_)
          refine lv_iinc (k := 3) (v := nI (i_28 + 1)) (lv' := [(6, .int (nI (i_28 + 1))), (5, .int (g_UC_timesX pw)), (2, .long inf), (4, .int sy)]) hx hb d_UC_infoOf_59 hl rfl (fl_inc _) (by decide) rfl (fun ls hl => ?_)
          refine lv_goto (tgt := 28) hx hb d_UC_infoOf_62 (by decide) ?_
          have hl := lv_sub (l' := [(2, .long inf), (4, .int sy), (5, .int (g_UC_timesX pw)), (6, .int (nI (i_28 + 1)))]) hl [2, 3, 1, 0] rfl
          exact ih_28 (i_28 + 1) inf sy (g_UC_timesX pw) ls _ _ (by omega) hl hP hS hG
        ·
          have hG := hG.trans (if_pos h_4)
          refine lv_lload_n hx hb d_UC_infoOf_42 rfl (lv_at hl 0 rfl) ?_
          refine lv_lconst (v := 1) hx hb d_UC_infoOf_43 (by decide) ?_
          refine lv_iload hx hb d_UC_infoOf_44 (lv_at hl 3 rfl) ?_
          refine lv_lshl (v := j_lshl 1 (nI i_28)) hx hb d_UC_infoOf_46 rfl ?_
          refine lv_bipush (v := 7) hx hb d_UC_infoOf_47 (by decide) ?_
          refine lv_lushr (v := j_lushr (j_lshl 1 (nI i_28)) 7) hx hb d_UC_infoOf_49 rfl ?_
          refine lv_lxor hx hb d_UC_infoOf_50 ?_
          exact fl_lret hx hb hr hlocks hP hS hG.symm rfl d_UC_infoOf_51
    have hl := lv_sub (l' := [(2, .long ((j_lushr x1 7) &&& 72057594037927935)), (4, .int (g_UC_syndromeOf x1)), (5, .int 1), (6, .int (nI 0))]) hl [3, 2, 1, 0] rfl
    exact lp_28 63 0 ((j_lushr x1 7) &&& 72057594037927935) (g_UC_syndromeOf x1) 1 ls _ _ (by omega) hl hP hS hG
  ·
    have hG := hG.trans (if_pos h_1)
    refine lv_lload_n hx hb d_UC_infoOf_20 rfl (lv_at hl 1 rfl) ?_
    exact fl_lret hx hb hr hlocks hP hS hG.symm rfl d_UC_infoOf_21
theorem hd_UC_infoOf : y_UC_infoOf.cls ≠ "java/lang/invoke/MethodHandle" ∧ y_UC_infoOf.cls ≠ "java/lang/invoke/VarHandle" ∧ (parseMethodDescriptor y_UC_infoOf.desc).map (fun d => d.parameters.length) = some 1 := by decide +kernel
theorem kv_UC_infoOf {R : Room} {s : State} {args : Array Value} {c0 : Cond} {own : String} {index : Nat} (hts : ∀ w ∈ c0 :: gw, w.before args s = true) (hl : (Cond.methodLink own index y_UC_infoOf).before args s = true) (hR : 3 + 1 ≤ R.frames ∧ 8 + (7 + 11) + 73 ≤ R.locals) : CallB R s args own index y_UC_infoOf b_UC_infoOf 7 (some .long) w_UC_infoOf ({ frames := 3, cells := 0, slots := 0, locals := 73 } : Room) 0 0 1 ∧ (Cond.static y_UC_infoOf).before args s = true := ⟨callB_of 1 hts (gw_in tw_389) rfl rfl rfl (hts _ (List.mem_cons_of_mem _ tw_12)) hl hd_UC_infoOf hR, hts _ (List.mem_cons_of_mem _ tw_388)⟩
def g_DC_blockOf (x1 : Int64) : Int64 :=
  (j_lshl (x1 &&& 17592186044415) 16) ||| ((g_DV_rest tb3 11 (x1 &&& 17592186044415) 44 16).toInt64)
set_option maxHeartbeats 4000000 in
set_option maxRecDepth 100000 in
theorem c_DC_blockOf (l : Launch) {D : va_G} {ad : Nat → Nat} {cA : Nat → ClassId} {st : Nat → Nat} (hi : fl_inj ad 88) (M : fl_M) (x1 : Int64) : Met l y_DC_blockOf w_DC_blockOf ({ frames := 2, cells := 0, slots := 0, locals := 51 } : Room) (va_Pc [.long x1] (fl_B D cls (xt cA) (xSL st) xFN xMN ad (xc ad cA) 88 M)) (va_Ql (fun r M' => r = (g_DC_blockOf x1) ∧ M' = M) (fl_E D cls ad (xc ad cA) 88) (fl_A ad 88)) 0 0 (fl_A ad 88) := by
  refine Met.ofW (cc := b_DC_blockOf) (maxL := 4) (ret := (some .long)) (by decide) rfl ?_
  intro p e s m args below meth c s₁ B hml hv
  obtain ⟨rfl, hP, hK, hSt, hN⟩ := hv
  have hx := B.exec
  have hb := B.bytes
  have hr := B.returns
  have hts := atoms_spec (ws := w_DC_blockOf) B.pre
  have hown : s.vm.findClass "FarLink$DownCode" = some m.cls := findClass_of_methodNamed B.named
  have hlocks := B.notSynchronized
  have hS : va_S (fl_A ad 88) s.heap s.heap [] := va_S.rf
  have hl := lv_entry ([.long x1]) (n := 4) (Nat.le_of_ble_eq_true rfl)
  rw [lg_entry_eq]
  generalize (lg_sl ([.long x1]) ++ List.replicate (4 - (lg_sl ([.long x1])).length) Slot.unset).toArray = ls at hl ⊢
  have hl : lv_has ls 4 [(0, .long x1)] := hl
  have hG := g_DC_blockOf.eq_1 x1
  refine lv_lload_n hx hb d_DC_blockOf_0 rfl (lv_at hl 0 rfl) ?_
  refine lv_ldc2 (v := 17592186044415) hx hb hown (hts _ (List.mem_cons_of_mem _ tw_417)) d_DC_blockOf_1 ?_
  refine lv_land hx hb d_DC_blockOf_4 ?_
  refine lv_lstore_n (lv' := [(2, .long (x1 &&& 17592186044415)), (0, .long x1)]) hx hb d_DC_blockOf_5 rfl hl (by decide) rfl (fun ls hl => ?_)
  refine lv_lload_n hx hb d_DC_blockOf_6 rfl (lv_at hl 0 rfl) ?_
  refine lv_bipush (v := 16) hx hb d_DC_blockOf_7 (by decide) ?_
  refine lv_lshl (v := j_lshl (x1 &&& 17592186044415) 16) hx hb d_DC_blockOf_9 rfl ?_
  refine lv_lload_n hx hb d_DC_blockOf_10 rfl (lv_at hl 0 rfl) ?_
  refine lv_bipush (v := 44) hx hb d_DC_blockOf_11 (by decide) ?_
  refine lv_bipush (v := 16) hx hb d_DC_blockOf_13 (by decide) ?_
  refine va_gets hx hb (hSt _ (List.mem_of_getElem? (i := 3) rfl)).1 hS hown (hts _ (List.mem_cons_of_mem _ tw_413)) (fun _ h => h) d_DC_blockOf_15 ?_
  refine fl_calli (va_runS (As := [.long (x1 &&& 17592186044415), .int 44, .int 16, .ref (st 3)]) (rest := [.long (j_lshl (x1 &&& 17592186044415) 16)]) ⟨hx, hb, hml, hown, hts⟩ (c_DV_rest l hi tb3 11 M (x1 &&& 17592186044415) 44 16 (jt := 3) rfl (rfl) (by decide)) (kv_DV_rest hts (hts _ (List.mem_cons_of_mem _ tw_415)) ⟨Nat.le_of_ble_eq_true rfl, Nat.le_of_ble_eq_true rfl⟩) (fl_preS hK hSt hN hS hP) rfl rfl hl.1 rfl (lv_room (Nat.le_of_ble_eq_true rfl)) d_DC_blockOf_18 ⟨Nat.zero_le _, Nat.zero_le _⟩) hS (fun H locs hP hS => ?_)
  refine lv_i2l (v := (g_DV_rest tb3 11 (x1 &&& 17592186044415) 44 16).toInt64) hx hb d_DC_blockOf_21 rfl ?_
  refine lv_lor hx hb d_DC_blockOf_22 ?_
  exact fl_lret hx hb hr hlocks hP hS hG.symm rfl d_DC_blockOf_23
theorem hd_DC_blockOf : y_DC_blockOf.cls ≠ "java/lang/invoke/MethodHandle" ∧ y_DC_blockOf.cls ≠ "java/lang/invoke/VarHandle" ∧ (parseMethodDescriptor y_DC_blockOf.desc).map (fun d => d.parameters.length) = some 1 := by decide +kernel
theorem kv_DC_blockOf {R : Room} {s : State} {args : Array Value} {c0 : Cond} {own : String} {index : Nat} (hts : ∀ w ∈ c0 :: gw, w.before args s = true) (hl : (Cond.methodLink own index y_DC_blockOf).before args s = true) (hR : 2 + 1 ≤ R.frames ∧ 8 + (4 + 11) + 51 ≤ R.locals) : CallB R s args own index y_DC_blockOf b_DC_blockOf 4 (some .long) w_DC_blockOf ({ frames := 2, cells := 0, slots := 0, locals := 51 } : Room) 0 0 1 ∧ (Cond.static y_DC_blockOf).before args s = true := ⟨callB_of 1 hts (gw_in tw_567) rfl rfl rfl (hts _ (List.mem_cons_of_mem _ tw_14)) hl hd_DC_blockOf hR, hts _ (List.mem_cons_of_mem _ tw_566)⟩
def g_DC_syndromeOf (x1 : Int64) : Int32 :=
  (g_DV_rest tb3 11 (j_lushr x1 16) 44 16) ^^^ ((x1 &&& 65535).toInt32)
set_option maxHeartbeats 4000000 in
set_option maxRecDepth 100000 in
theorem c_DC_syndromeOf (l : Launch) {D : va_G} {ad : Nat → Nat} {cA : Nat → ClassId} {st : Nat → Nat} (hi : fl_inj ad 88) (M : fl_M) (x1 : Int64) : Met l y_DC_syndromeOf w_DC_syndromeOf ({ frames := 2, cells := 0, slots := 0, locals := 51 } : Room) (va_Pc [.long x1] (fl_B D cls (xt cA) (xSL st) xFN xMN ad (xc ad cA) 88 M)) (va_Qi (fun r M' => r = (g_DC_syndromeOf x1) ∧ M' = M) (fl_E D cls ad (xc ad cA) 88) (fl_A ad 88)) 0 0 (fl_A ad 88) := by
  refine Met.ofW (cc := b_DC_syndromeOf) (maxL := 3) (ret := (some .int)) (by decide) rfl ?_
  intro p e s m args below meth c s₁ B hml hv
  obtain ⟨rfl, hP, hK, hSt, hN⟩ := hv
  have hx := B.exec
  have hb := B.bytes
  have hr := B.returns
  have hts := atoms_spec (ws := w_DC_syndromeOf) B.pre
  have hown : s.vm.findClass "FarLink$DownCode" = some m.cls := findClass_of_methodNamed B.named
  have hlocks := B.notSynchronized
  have hS : va_S (fl_A ad 88) s.heap s.heap [] := va_S.rf
  have hl := lv_entry ([.long x1]) (n := 3) (Nat.le_of_ble_eq_true rfl)
  rw [lg_entry_eq]
  generalize (lg_sl ([.long x1]) ++ List.replicate (3 - (lg_sl ([.long x1])).length) Slot.unset).toArray = ls at hl ⊢
  have hl : lv_has ls 3 [(0, .long x1)] := hl
  have hG := g_DC_syndromeOf.eq_1 x1
  refine lv_lload_n hx hb d_DC_syndromeOf_0 rfl (lv_at hl 0 rfl) ?_
  refine lv_bipush (v := 16) hx hb d_DC_syndromeOf_1 (by decide) ?_
  refine lv_lushr (v := j_lushr x1 16) hx hb d_DC_syndromeOf_3 rfl ?_
  refine lv_bipush (v := 44) hx hb d_DC_syndromeOf_4 (by decide) ?_
  refine lv_bipush (v := 16) hx hb d_DC_syndromeOf_6 (by decide) ?_
  refine va_gets hx hb (hSt _ (List.mem_of_getElem? (i := 3) rfl)).1 hS hown (hts _ (List.mem_cons_of_mem _ tw_413)) (fun _ h => h) d_DC_syndromeOf_8 ?_
  refine fl_calli (va_runS (As := [.long (j_lushr x1 16), .int 44, .int 16, .ref (st 3)]) (rest := []) ⟨hx, hb, hml, hown, hts⟩ (c_DV_rest l hi tb3 11 M (j_lushr x1 16) 44 16 (jt := 3) rfl (rfl) (by decide)) (kv_DV_rest hts (hts _ (List.mem_cons_of_mem _ tw_415)) ⟨Nat.le_of_ble_eq_true rfl, Nat.le_of_ble_eq_true rfl⟩) (fl_preS hK hSt hN hS hP) rfl rfl hl.1 rfl (lv_room (Nat.le_of_ble_eq_true rfl)) d_DC_syndromeOf_11 ⟨Nat.zero_le _, Nat.zero_le _⟩) hS (fun H locs hP hS => ?_)
  refine lv_istore_n (lv' := [(2, .int (g_DV_rest tb3 11 (j_lushr x1 16) 44 16)), (0, .long x1)]) hx hb d_DC_syndromeOf_14 rfl hl (by decide) rfl (fun ls hl => ?_)
  refine lv_iload_n hx hb d_DC_syndromeOf_15 rfl (lv_at hl 0 rfl) ?_
  refine lv_lload_n hx hb d_DC_syndromeOf_16 rfl (lv_at hl 1 rfl) ?_
  refine lv_ldc2 (v := 65535) hx hb hown (hts _ (List.mem_cons_of_mem _ tw_416)) d_DC_syndromeOf_17 ?_
  refine lv_land hx hb d_DC_syndromeOf_20 ?_
  refine lv_l2i (v := (x1 &&& 65535).toInt32) hx hb d_DC_syndromeOf_21 rfl ?_
  refine lv_ixor hx hb d_DC_syndromeOf_22 ?_
  exact fl_iret hx hb hr hlocks hP hS hG.symm rfl d_DC_syndromeOf_23
theorem hd_DC_syndromeOf : y_DC_syndromeOf.cls ≠ "java/lang/invoke/MethodHandle" ∧ y_DC_syndromeOf.cls ≠ "java/lang/invoke/VarHandle" ∧ (parseMethodDescriptor y_DC_syndromeOf.desc).map (fun d => d.parameters.length) = some 1 := by decide +kernel
theorem kv_DC_syndromeOf {R : Room} {s : State} {args : Array Value} {c0 : Cond} {own : String} {index : Nat} (hts : ∀ w ∈ c0 :: gw, w.before args s = true) (hl : (Cond.methodLink own index y_DC_syndromeOf).before args s = true) (hR : 2 + 1 ≤ R.frames ∧ 8 + (3 + 11) + 51 ≤ R.locals) : CallB R s args own index y_DC_syndromeOf b_DC_syndromeOf 3 (some .int) w_DC_syndromeOf ({ frames := 2, cells := 0, slots := 0, locals := 51 } : Room) 0 0 1 ∧ (Cond.static y_DC_syndromeOf).before args s = true := ⟨callB_of 1 hts (gw_in tw_412) rfl rfl rfl (hts _ (List.mem_cons_of_mem _ tw_14)) hl hd_DC_syndromeOf hR, hts _ (List.mem_cons_of_mem _ tw_411)⟩
def g_DC_times (x1 : Int32) (x2 : Int32) : Int32 :=
  if x1 = 0 then (0) else (if x2 = 0 then (0) else (tb1 (((tb2 (x1 &&& 15).toNatClampNeg) + (tb2 (x2 &&& 15).toNatClampNeg)) - ((tb2 (x1 &&& 15).toNatClampNeg) + (tb2 (x2 &&& 15).toNatClampNeg)) / 15 * 15).toNatClampNeg))
set_option maxHeartbeats 4000000 in
set_option maxRecDepth 100000 in
theorem c_DC_times (l : Launch) {D : va_G} {ad : Nat → Nat} {cA : Nat → ClassId} {st : Nat → Nat} (hi : fl_inj ad 88) (M : fl_M) (x1 : Int32) (x2 : Int32) : Met l y_DC_times w_DC_times ({ frames := 0, cells := 0, slots := 0, locals := 0 } : Room) (va_Pc [.int x1, .int x2] (fl_B D cls (xt cA) (xSL st) xFN xMN ad (xc ad cA) 88 M)) (va_Qi (fun r M' => r = (g_DC_times x1 x2) ∧ M' = M) (fl_E D cls ad (xc ad cA) 88) (fl_A ad 88)) 0 0 (fl_A ad 88) := by
  refine Met.ofW (cc := b_DC_times) (maxL := 2) (ret := (some .int)) (by decide) rfl ?_
  intro p e s m args below meth c s₁ B hml hv
  obtain ⟨rfl, hP, hK, hSt, hN⟩ := hv
  have hx := B.exec
  have hb := B.bytes
  have hr := B.returns
  have hts := atoms_spec (ws := w_DC_times) B.pre
  have hown : s.vm.findClass "FarLink$DownCode" = some m.cls := findClass_of_methodNamed B.named
  have hlocks := B.notSynchronized
  have hS : va_S (fl_A ad 88) s.heap s.heap [] := va_S.rf
  have hl := lv_entry ([.int x1, .int x2]) (n := 2) (Nat.le_of_ble_eq_true rfl)
  rw [lg_entry_eq]
  generalize (lg_sl ([.int x1, .int x2]) ++ List.replicate (2 - (lg_sl ([.int x1, .int x2])).length) Slot.unset).toArray = ls at hl ⊢
  have hl : lv_has ls 2 [(0, .int x1), (1, .int x2)] := hl
  have hG := g_DC_times.eq_1 x1 x2
  refine lv_iload_n hx hb d_DC_times_0 rfl (lv_at hl 0 rfl) ?_
  refine lv_if_eq (tgt := 8) hx hb d_DC_times_1 (by decide) (fun h_1 => ?_) (fun h_1 => ?_)
  ·
    have hG := hG.trans (if_pos h_1)
    refine lv_iconst (v := 0) hx hb d_DC_times_8 (by decide) ?_
    exact fl_iret hx hb hr hlocks hP hS hG.symm rfl d_DC_times_9
  ·
    have hG := hG.trans (if_neg h_1)
    refine lv_iload_n hx hb d_DC_times_4 rfl (lv_at hl 1 rfl) ?_
    refine lv_if_ne (tgt := 10) hx hb d_DC_times_5 (by decide) (fun h_2 => ?_) (fun h_2 => ?_)
    ·
      have hG := hG.trans (if_neg h_2)
      refine va_gets hx hb (hSt _ (List.mem_of_getElem? (i := 1) rfl)).1 hS hown (hts _ (List.mem_cons_of_mem _ tw_422)) (fun _ h => h) d_DC_times_10 ?_
      refine va_gets hx hb (hSt _ (List.mem_of_getElem? (i := 2) rfl)).1 hS hown (hts _ (List.mem_cons_of_mem _ tw_427)) (fun _ h => h) d_DC_times_13 ?_
      refine lv_iload_n hx hb d_DC_times_16 rfl (lv_at hl 0 rfl) ?_
      refine lv_bipush (v := 15) hx hb d_DC_times_17 (by decide) ?_
      refine lv_iand hx hb d_DC_times_19 ?_
      refine fl_tab hx hb (hSt _ (List.mem_of_getElem? (i := 2) rfl)).2 hS (fl_in15 _) d_DC_times_20 ?_
      refine va_gets hx hb (hSt _ (List.mem_of_getElem? (i := 2) rfl)).1 hS hown (hts _ (List.mem_cons_of_mem _ tw_427)) (fun _ h => h) d_DC_times_21 ?_
      refine lv_iload_n hx hb d_DC_times_24 rfl (lv_at hl 1 rfl) ?_
      refine lv_bipush (v := 15) hx hb d_DC_times_25 (by decide) ?_
      refine lv_iand hx hb d_DC_times_27 ?_
      refine fl_tab hx hb (hSt _ (List.mem_of_getElem? (i := 2) rfl)).2 hS (fl_in15 _) d_DC_times_28 ?_
      refine lv_iadd hx hb d_DC_times_29 ?_
      refine lv_bipush (v := 15) hx hb d_DC_times_30 (by decide) ?_
      refine lv_irem hx hb d_DC_times_32 (by decide) ?_
      refine fl_tab hx hb (hSt _ (List.mem_of_getElem? (i := 1) rfl)).2 hS (tm_in _ _) d_DC_times_33 ?_
      exact fl_iret hx hb hr hlocks hP hS hG.symm rfl d_DC_times_34
    ·
      have hG := hG.trans (if_pos h_2)
      refine lv_iconst (v := 0) hx hb d_DC_times_8 (by decide) ?_
      exact fl_iret hx hb hr hlocks hP hS hG.symm rfl d_DC_times_9
theorem hd_DC_times : y_DC_times.cls ≠ "java/lang/invoke/MethodHandle" ∧ y_DC_times.cls ≠ "java/lang/invoke/VarHandle" ∧ (parseMethodDescriptor y_DC_times.desc).map (fun d => d.parameters.length) = some 2 := by decide +kernel
theorem kv_DC_times {R : Room} {s : State} {args : Array Value} {c0 : Cond} {own : String} {index : Nat} (hts : ∀ w ∈ c0 :: gw, w.before args s = true) (hl : (Cond.methodLink own index y_DC_times).before args s = true) (hR : 0 + 1 ≤ R.frames ∧ 8 + (2 + 11) + 0 ≤ R.locals) : CallB R s args own index y_DC_times b_DC_times 2 (some .int) w_DC_times ({ frames := 0, cells := 0, slots := 0, locals := 0 } : Room) 0 0 2 ∧ (Cond.static y_DC_times).before args s = true := ⟨callB_of 2 hts (gw_in tw_426) rfl rfl rfl (hts _ (List.mem_cons_of_mem _ tw_14)) hl hd_DC_times hR, hts _ (List.mem_cons_of_mem _ tw_425)⟩
def g_DC_over (x1 : Int32) (x2 : Int32) : Int32 :=
  if x1 = 0 then (0) else (if x2 = 0 then (0) else (tb1 ((((tb2 (x1 &&& 15).toNatClampNeg) + 15) - (tb2 (x2 &&& 15).toNatClampNeg)) - (((tb2 (x1 &&& 15).toNatClampNeg) + 15) - (tb2 (x2 &&& 15).toNatClampNeg)) / 15 * 15).toNatClampNeg))
set_option maxHeartbeats 4000000 in
set_option maxRecDepth 100000 in
theorem c_DC_over (l : Launch) {D : va_G} {ad : Nat → Nat} {cA : Nat → ClassId} {st : Nat → Nat} (hi : fl_inj ad 88) (M : fl_M) (x1 : Int32) (x2 : Int32) : Met l y_DC_over w_DC_over ({ frames := 0, cells := 0, slots := 0, locals := 0 } : Room) (va_Pc [.int x1, .int x2] (fl_B D cls (xt cA) (xSL st) xFN xMN ad (xc ad cA) 88 M)) (va_Qi (fun r M' => r = (g_DC_over x1 x2) ∧ M' = M) (fl_E D cls ad (xc ad cA) 88) (fl_A ad 88)) 0 0 (fl_A ad 88) := by
  refine Met.ofW (cc := b_DC_over) (maxL := 2) (ret := (some .int)) (by decide) rfl ?_
  intro p e s m args below meth c s₁ B hml hv
  obtain ⟨rfl, hP, hK, hSt, hN⟩ := hv
  have hx := B.exec
  have hb := B.bytes
  have hr := B.returns
  have hts := atoms_spec (ws := w_DC_over) B.pre
  have hown : s.vm.findClass "FarLink$DownCode" = some m.cls := findClass_of_methodNamed B.named
  have hlocks := B.notSynchronized
  have hS : va_S (fl_A ad 88) s.heap s.heap [] := va_S.rf
  have hl := lv_entry ([.int x1, .int x2]) (n := 2) (Nat.le_of_ble_eq_true rfl)
  rw [lg_entry_eq]
  generalize (lg_sl ([.int x1, .int x2]) ++ List.replicate (2 - (lg_sl ([.int x1, .int x2])).length) Slot.unset).toArray = ls at hl ⊢
  have hl : lv_has ls 2 [(0, .int x1), (1, .int x2)] := hl
  have hG := g_DC_over.eq_1 x1 x2
  refine lv_iload_n hx hb d_DC_over_0 rfl (lv_at hl 0 rfl) ?_
  refine lv_if_eq (tgt := 8) hx hb d_DC_over_1 (by decide) (fun h_1 => ?_) (fun h_1 => ?_)
  ·
    have hG := hG.trans (if_pos h_1)
    refine lv_iconst (v := 0) hx hb d_DC_over_8 (by decide) ?_
    exact fl_iret hx hb hr hlocks hP hS hG.symm rfl d_DC_over_9
  ·
    have hG := hG.trans (if_neg h_1)
    refine lv_iload_n hx hb d_DC_over_4 rfl (lv_at hl 1 rfl) ?_
    refine lv_if_ne (tgt := 10) hx hb d_DC_over_5 (by decide) (fun h_2 => ?_) (fun h_2 => ?_)
    ·
      have hG := hG.trans (if_neg h_2)
      refine va_gets hx hb (hSt _ (List.mem_of_getElem? (i := 1) rfl)).1 hS hown (hts _ (List.mem_cons_of_mem _ tw_422)) (fun _ h => h) d_DC_over_10 ?_
      refine va_gets hx hb (hSt _ (List.mem_of_getElem? (i := 2) rfl)).1 hS hown (hts _ (List.mem_cons_of_mem _ tw_427)) (fun _ h => h) d_DC_over_13 ?_
      refine lv_iload_n hx hb d_DC_over_16 rfl (lv_at hl 0 rfl) ?_
      refine lv_bipush (v := 15) hx hb d_DC_over_17 (by decide) ?_
      refine lv_iand hx hb d_DC_over_19 ?_
      refine fl_tab hx hb (hSt _ (List.mem_of_getElem? (i := 2) rfl)).2 hS (fl_in15 _) d_DC_over_20 ?_
      refine lv_bipush (v := 15) hx hb d_DC_over_21 (by decide) ?_
      refine lv_iadd hx hb d_DC_over_23 ?_
      refine va_gets hx hb (hSt _ (List.mem_of_getElem? (i := 2) rfl)).1 hS hown (hts _ (List.mem_cons_of_mem _ tw_427)) (fun _ h => h) d_DC_over_24 ?_
      refine lv_iload_n hx hb d_DC_over_27 rfl (lv_at hl 1 rfl) ?_
      refine lv_bipush (v := 15) hx hb d_DC_over_28 (by decide) ?_
      refine lv_iand hx hb d_DC_over_30 ?_
      refine fl_tab hx hb (hSt _ (List.mem_of_getElem? (i := 2) rfl)).2 hS (fl_in15 _) d_DC_over_31 ?_
      refine lv_isub hx hb d_DC_over_32 ?_
      refine lv_bipush (v := 15) hx hb d_DC_over_33 (by decide) ?_
      refine lv_irem hx hb d_DC_over_35 (by decide) ?_
      refine fl_tab hx hb (hSt _ (List.mem_of_getElem? (i := 1) rfl)).2 hS (ov_in _ _) d_DC_over_36 ?_
      exact fl_iret hx hb hr hlocks hP hS hG.symm rfl d_DC_over_37
    ·
      have hG := hG.trans (if_pos h_2)
      refine lv_iconst (v := 0) hx hb d_DC_over_8 (by decide) ?_
      exact fl_iret hx hb hr hlocks hP hS hG.symm rfl d_DC_over_9
theorem hd_DC_over : y_DC_over.cls ≠ "java/lang/invoke/MethodHandle" ∧ y_DC_over.cls ≠ "java/lang/invoke/VarHandle" ∧ (parseMethodDescriptor y_DC_over.desc).map (fun d => d.parameters.length) = some 2 := by decide +kernel
theorem kv_DC_over {R : Room} {s : State} {args : Array Value} {c0 : Cond} {own : String} {index : Nat} (hts : ∀ w ∈ c0 :: gw, w.before args s = true) (hl : (Cond.methodLink own index y_DC_over).before args s = true) (hR : 0 + 1 ≤ R.frames ∧ 8 + (2 + 11) + 0 ≤ R.locals) : CallB R s args own index y_DC_over b_DC_over 2 (some .int) w_DC_over ({ frames := 0, cells := 0, slots := 0, locals := 0 } : Room) 0 0 2 ∧ (Cond.static y_DC_over).before args s = true := ⟨callB_of 2 hts (gw_in tw_434) rfl rfl rfl (hts _ (List.mem_cons_of_mem _ tw_14)) hl hd_DC_over hR, hts _ (List.mem_cons_of_mem _ tw_433)⟩
def g_DC_errorAt (x1 : Int32) (x2 : Int32) : Int64 :=
  j_lshl x2.toInt64 (4 * (tb2 (x1 &&& 15).toNatClampNeg))
set_option maxHeartbeats 4000000 in
set_option maxRecDepth 100000 in
theorem c_DC_errorAt (l : Launch) {D : va_G} {ad : Nat → Nat} {cA : Nat → ClassId} {st : Nat → Nat} (hi : fl_inj ad 88) (M : fl_M) (x1 : Int32) (x2 : Int32) : Met l y_DC_errorAt w_DC_errorAt ({ frames := 0, cells := 0, slots := 0, locals := 0 } : Room) (va_Pc [.int x1, .int x2] (fl_B D cls (xt cA) (xSL st) xFN xMN ad (xc ad cA) 88 M)) (va_Ql (fun r M' => r = (g_DC_errorAt x1 x2) ∧ M' = M) (fl_E D cls ad (xc ad cA) 88) (fl_A ad 88)) 0 0 (fl_A ad 88) := by
  refine Met.ofW (cc := b_DC_errorAt) (maxL := 2) (ret := (some .long)) (by decide) rfl ?_
  intro p e s m args below meth c s₁ B hml hv
  obtain ⟨rfl, hP, hK, hSt, hN⟩ := hv
  have hx := B.exec
  have hb := B.bytes
  have hr := B.returns
  have hts := atoms_spec (ws := w_DC_errorAt) B.pre
  have hown : s.vm.findClass "FarLink$DownCode" = some m.cls := findClass_of_methodNamed B.named
  have hlocks := B.notSynchronized
  have hS : va_S (fl_A ad 88) s.heap s.heap [] := va_S.rf
  have hl := lv_entry ([.int x1, .int x2]) (n := 2) (Nat.le_of_ble_eq_true rfl)
  rw [lg_entry_eq]
  generalize (lg_sl ([.int x1, .int x2]) ++ List.replicate (2 - (lg_sl ([.int x1, .int x2])).length) Slot.unset).toArray = ls at hl ⊢
  have hl : lv_has ls 2 [(0, .int x1), (1, .int x2)] := hl
  have hG := g_DC_errorAt.eq_1 x1 x2
  refine lv_iload_n hx hb d_DC_errorAt_0 rfl (lv_at hl 1 rfl) ?_
  refine lv_i2l (v := x2.toInt64) hx hb d_DC_errorAt_1 rfl ?_
  refine lv_iconst (v := 4) hx hb d_DC_errorAt_2 (by decide) ?_
  refine va_gets hx hb (hSt _ (List.mem_of_getElem? (i := 2) rfl)).1 hS hown (hts _ (List.mem_cons_of_mem _ tw_427)) (fun _ h => h) d_DC_errorAt_3 ?_
  refine lv_iload_n hx hb d_DC_errorAt_6 rfl (lv_at hl 0 rfl) ?_
  refine lv_bipush (v := 15) hx hb d_DC_errorAt_7 (by decide) ?_
  refine lv_iand hx hb d_DC_errorAt_9 ?_
  refine fl_tab hx hb (hSt _ (List.mem_of_getElem? (i := 2) rfl)).2 hS (fl_in15 _) d_DC_errorAt_10 ?_
  refine lv_imul hx hb d_DC_errorAt_11 ?_
  refine lv_lshl (v := j_lshl x2.toInt64 (4 * (tb2 (x1 &&& 15).toNatClampNeg))) hx hb d_DC_errorAt_12 rfl ?_
  exact fl_lret hx hb hr hlocks hP hS hG.symm rfl d_DC_errorAt_13
theorem hd_DC_errorAt : y_DC_errorAt.cls ≠ "java/lang/invoke/MethodHandle" ∧ y_DC_errorAt.cls ≠ "java/lang/invoke/VarHandle" ∧ (parseMethodDescriptor y_DC_errorAt.desc).map (fun d => d.parameters.length) = some 2 := by decide +kernel
theorem kv_DC_errorAt {R : Room} {s : State} {args : Array Value} {c0 : Cond} {own : String} {index : Nat} (hts : ∀ w ∈ c0 :: gw, w.before args s = true) (hl : (Cond.methodLink own index y_DC_errorAt).before args s = true) (hR : 0 + 1 ≤ R.frames ∧ 8 + (2 + 11) + 0 ≤ R.locals) : CallB R s args own index y_DC_errorAt b_DC_errorAt 2 (some .long) w_DC_errorAt ({ frames := 0, cells := 0, slots := 0, locals := 0 } : Room) 0 0 2 ∧ (Cond.static y_DC_errorAt).before args s = true := ⟨callB_of 2 hts (gw_in tw_438) rfl rfl rfl (hts _ (List.mem_cons_of_mem _ tw_14)) hl hd_DC_errorAt hR, hts _ (List.mem_cons_of_mem _ tw_437)⟩
def g_DC_valueAt_L4 (x1 : Int32) (x2 : Int32) : Nat → Nat → Int32 → Int32
  | 0, i_4, va => (va)
  | k_4 + 1, i_4, va => g_DC_valueAt_L4 x1 x2 k_4 (i_4 + 1) (va ^^^ (g_DC_times (g_FL_fourBitsAt x2.toInt64 (4 * (nI i_4))) (tb1 ((x1 * (nI i_4)) - (x1 * (nI i_4)) / 15 * 15).toNatClampNeg)))
def g_DC_valueAt (x1 : Int32) (x2 : Int32) : Int32 :=
  (g_DC_valueAt_L4 x1 x2 4 0 0)
set_option maxHeartbeats 4000000 in
set_option maxRecDepth 100000 in
theorem c_DC_valueAt (l : Launch) {D : va_G} {ad : Nat → Nat} {cA : Nat → ClassId} {st : Nat → Nat} (hi : fl_inj ad 88) (M : fl_M) (x1 : Int32) (x2 : Int32) (he : ∃ e : Nat, e < 5 ∧ x1 = nI e) : Met l y_DC_valueAt w_DC_valueAt ({ frames := 1, cells := 0, slots := 0, locals := 22 } : Room) (va_Pc [.int x1, .int x2] (fl_B D cls (xt cA) (xSL st) xFN xMN ad (xc ad cA) 88 M)) (va_Qi (fun r M' => r = (g_DC_valueAt x1 x2) ∧ M' = M) (fl_E D cls ad (xc ad cA) 88) (fl_A ad 88)) 0 0 (fl_A ad 88) := by
  refine Met.ofW (cc := b_DC_valueAt) (maxL := 4) (ret := (some .int)) (by decide) rfl ?_
  intro p e s m args below meth c s₁ B hml hv
  obtain ⟨rfl, hP, hK, hSt, hN⟩ := hv
  have hx := B.exec
  have hb := B.bytes
  have hr := B.returns
  have hts := atoms_spec (ws := w_DC_valueAt) B.pre
  have hown : s.vm.findClass "FarLink$DownCode" = some m.cls := findClass_of_methodNamed B.named
  have hlocks := B.notSynchronized
  have hS : va_S (fl_A ad 88) s.heap s.heap [] := va_S.rf
  have hl := lv_entry ([.int x1, .int x2]) (n := 4) (Nat.le_of_ble_eq_true rfl)
  rw [lg_entry_eq]
  generalize (lg_sl ([.int x1, .int x2]) ++ List.replicate (4 - (lg_sl ([.int x1, .int x2])).length) Slot.unset).toArray = ls at hl ⊢
  have hl : lv_has ls 4 [(0, .int x1), (1, .int x2)] := hl
  have hG := g_DC_valueAt.eq_1 x1 x2
  refine lv_iconst (v := 0) hx hb d_DC_valueAt_0 (by decide) ?_
  refine lv_istore_n (lv' := [(2, .int 0), (0, .int x1), (1, .int x2)]) hx hb d_DC_valueAt_1 rfl hl (by decide) rfl (fun ls hl => ?_)
  refine lv_iconst (v := 0) hx hb d_DC_valueAt_2 (by decide) ?_
  refine lv_istore_n (lv' := [(3, .int 0), (2, .int 0), (0, .int x1), (1, .int x2)]) hx hb d_DC_valueAt_3 rfl hl (by decide) rfl (fun ls hl => ?_)
  have lp_4 : ∀ (k_4 : Nat) (i_4 : Nat) (va : Int32) (ls : Array Slot) (H : Heap) (locs : List Loc), i_4 + k_4 = 4 → lv_has ls 4 [(0, .int x1), (1, .int x2), (2, .int va), (3, .int (nI i_4))] → va_P D cls (fl_w ad (xc ad cA) 88 M) H → va_S (fl_A ad 88) s.heap H locs → (∀ (v : Int32) (ls : Array Slot) (H : Heap) (locs : List Loc), v = g_DC_valueAt_L4 x1 x2 k_4 i_4 va → lv_has ls 4 [(0, .int x1), (1, .int x2), (2, .int v)] → va_P D cls (fl_w ad (xc ad cA) 88 M) H → va_S (fl_A ad 88) s.heap H locs → W p l e (headSpec w_DC_valueAt ({ frames := 1, cells := 0, slots := 0, locals := 22 } : Room)).room s m ([.int x1, .int x2] : List Value).toArray below meth c H locs 0 0 (MQ below (va_Qi (fun r M' => r = (g_DC_valueAt x1 x2) ∧ M' = M) (fl_E D cls ad (xc ad cA) 88) (fl_A ad 88)) ([.int x1, .int x2] : List Value).toArray s 0 0 (fl_A ad 88)) (F0 m 39 ls [])) → W p l e (headSpec w_DC_valueAt ({ frames := 1, cells := 0, slots := 0, locals := 22 } : Room)).room s m ([.int x1, .int x2] : List Value).toArray below meth c H locs 0 0 (MQ below (va_Qi (fun r M' => r = (g_DC_valueAt x1 x2) ∧ M' = M) (fl_E D cls ad (xc ad cA) 88) (fl_A ad 88)) ([.int x1, .int x2] : List Value).toArray s 0 0 (fl_A ad 88)) (F0 m 4 ls []) := by
    intro k_4
    induction k_4 with
    | zero =>
      intro i_4 va ls H locs hbd hl hP hS kk
      have hG : g_DC_valueAt_L4 x1 x2 0 i_4 va = _ := g_DC_valueAt_L4.eq_1 ..
      refine lv_iload_n hx hb d_DC_valueAt_4 rfl (lv_at hl 3 rfl) ?_
      refine lv_iconst (v := 4) hx hb d_DC_valueAt_5 (by decide) ?_
      refine lv_icmp_ge (tgt := 39) hx hb d_DC_valueAt_6 (by decide) (fun _ => ?_) (fun h_1 => absurd (fl_le (b := 4) rfl (by omega) (by omega)) h_1)
      have hl := lv_sub (l' := [(0, .int x1), (1, .int x2), (2, .int va)]) hl [0, 1, 2] rfl
      exact kk (va) ls _ _ hG.symm hl hP hS
    | succ k_4 ih_4 =>
      intro i_4 va ls H locs hbd hl hP hS kk
      have hG : g_DC_valueAt_L4 x1 x2 (k_4 + 1) i_4 va = _ := g_DC_valueAt_L4.eq_2 ..
      refine lv_iload_n hx hb d_DC_valueAt_4 rfl (lv_at hl 3 rfl) ?_
      refine lv_iconst (v := 4) hx hb d_DC_valueAt_5 (by decide) ?_
      refine lv_icmp_ge (tgt := 39) hx hb d_DC_valueAt_6 (by decide) (fun h_2 => absurd h_2 (fl_nle (b := 4) rfl (by omega) (by omega))) (fun _ => ?_)
      refine lv_iload_n hx hb d_DC_valueAt_9 rfl (lv_at hl 2 rfl) ?_
      refine lv_iload_n hx hb d_DC_valueAt_10 rfl (lv_at hl 1 rfl) ?_
      refine lv_i2l (v := x2.toInt64) hx hb d_DC_valueAt_11 rfl ?_
      refine lv_iconst (v := 4) hx hb d_DC_valueAt_12 (by decide) ?_
      refine lv_iload_n hx hb d_DC_valueAt_13 rfl (lv_at hl 3 rfl) ?_
      refine lv_imul hx hb d_DC_valueAt_14 ?_
      refine fl_calli (va_runSN (As := [.long x2.toInt64, .int (4 * (nI i_4))]) (rest := [.int va]) ⟨hx, hb, hml, hown, hts⟩ (c_FL_fourBitsAt l hi M x2.toInt64 (4 * (nI i_4))) (kn_FL_fourBitsAt hts (hN.m 4 rfl) ⟨Nat.le_of_ble_eq_true rfl, Nat.le_of_ble_eq_true rfl⟩) (fl_preS hK hSt hN hS hP) rfl rfl hl.1 rfl (lv_room (Nat.le_of_ble_eq_true rfl)) d_DC_valueAt_15 ⟨Nat.zero_le _, Nat.zero_le _⟩) hS (fun H locs hP hS => ?_)
      refine va_gets hx hb (hSt _ (List.mem_of_getElem? (i := 1) rfl)).1 hS hown (hts _ (List.mem_cons_of_mem _ tw_422)) (fun _ h => h) d_DC_valueAt_18 ?_
      refine lv_iload_n hx hb d_DC_valueAt_21 rfl (lv_at hl 0 rfl) ?_
      refine lv_iload_n hx hb d_DC_valueAt_22 rfl (lv_at hl 3 rfl) ?_
      refine lv_imul hx hb d_DC_valueAt_23 ?_
      refine lv_bipush (v := 15) hx hb d_DC_valueAt_24 (by decide) ?_
      refine lv_irem hx hb d_DC_valueAt_26 (by decide) ?_
      refine fl_tab hx hb (hSt _ (List.mem_of_getElem? (i := 1) rfl)).2 hS (ex_in he (by omega)) d_DC_valueAt_27 ?_
      refine fl_calli (va_runS (As := [.int (g_FL_fourBitsAt x2.toInt64 (4 * (nI i_4))), .int (tb1 ((x1 * (nI i_4)) - (x1 * (nI i_4)) / 15 * 15).toNatClampNeg)]) (rest := [.int va]) ⟨hx, hb, hml, hown, hts⟩ (c_DC_times l hi M (g_FL_fourBitsAt x2.toInt64 (4 * (nI i_4))) (tb1 ((x1 * (nI i_4)) - (x1 * (nI i_4)) / 15 * 15).toNatClampNeg)) (kv_DC_times hts (hts _ (List.mem_cons_of_mem _ tw_424)) ⟨Nat.le_of_ble_eq_true rfl, Nat.le_of_ble_eq_true rfl⟩) (fl_preS hK hSt hN hS hP) rfl rfl hl.1 rfl (lv_room (Nat.le_of_ble_eq_true rfl)) d_DC_valueAt_28 ⟨Nat.zero_le _, Nat.zero_le _⟩) hS (fun H locs hP hS => ?_)
      refine lv_ixor hx hb d_DC_valueAt_31 ?_
      refine lv_istore_n (lv' := [(2, .int (va ^^^ (g_DC_times (g_FL_fourBitsAt x2.toInt64 (4 * (nI i_4))) (tb1 ((x1 * (nI i_4)) - (x1 * (nI i_4)) / 15 * 15).toNatClampNeg)))), (0, .int x1), (1, .int x2), (3, .int (nI i_4))]) hx hb d_DC_valueAt_32 rfl hl (by decide) rfl (fun ls hl => ?_)
      refine lv_iinc (k := 3) (v := nI (i_4 + 1)) (lv' := [(3, .int (nI (i_4 + 1))), (2, .int (va ^^^ (g_DC_times (g_FL_fourBitsAt x2.toInt64 (4 * (nI i_4))) (tb1 ((x1 * (nI i_4)) - (x1 * (nI i_4)) / 15 * 15).toNatClampNeg)))), (0, .int x1), (1, .int x2)]) hx hb d_DC_valueAt_33 hl rfl (fl_inc _) (by decide) rfl (fun ls hl => ?_)
      refine lv_goto (tgt := 4) hx hb d_DC_valueAt_36 (by decide) ?_
      have hl := lv_sub (l' := [(0, .int x1), (1, .int x2), (2, .int (va ^^^ (g_DC_times (g_FL_fourBitsAt x2.toInt64 (4 * (nI i_4))) (tb1 ((x1 * (nI i_4)) - (x1 * (nI i_4)) / 15 * 15).toNatClampNeg)))), (3, .int (nI (i_4 + 1)))]) hl [2, 3, 1, 0] rfl
      exact ih_4 (i_4 + 1) (va ^^^ (g_DC_times (g_FL_fourBitsAt x2.toInt64 (4 * (nI i_4))) (tb1 ((x1 * (nI i_4)) - (x1 * (nI i_4)) / 15 * 15).toNatClampNeg))) ls _ _ (by omega) hl hP hS (fun v ls H locs hv => kk v ls H locs (hv.trans hG.symm))
  have hl := lv_sub (l' := [(0, .int x1), (1, .int x2), (2, .int 0), (3, .int (nI 0))]) hl [2, 3, 1, 0] rfl
  refine lp_4 4 0 0 ls _ _ (by omega) hl hP hS (fun v ls H locs hv hl hP hS => ?_)
  subst hv
  refine lv_iload_n hx hb d_DC_valueAt_39 rfl (lv_at hl 2 rfl) ?_
  exact fl_iret hx hb hr hlocks hP hS hG.symm rfl d_DC_valueAt_40
theorem hd_DC_valueAt : y_DC_valueAt.cls ≠ "java/lang/invoke/MethodHandle" ∧ y_DC_valueAt.cls ≠ "java/lang/invoke/VarHandle" ∧ (parseMethodDescriptor y_DC_valueAt.desc).map (fun d => d.parameters.length) = some 2 := by decide +kernel
theorem kv_DC_valueAt {R : Room} {s : State} {args : Array Value} {c0 : Cond} {own : String} {index : Nat} (hts : ∀ w ∈ c0 :: gw, w.before args s = true) (hl : (Cond.methodLink own index y_DC_valueAt).before args s = true) (hR : 1 + 1 ≤ R.frames ∧ 8 + (4 + 11) + 22 ≤ R.locals) : CallB R s args own index y_DC_valueAt b_DC_valueAt 4 (some .int) w_DC_valueAt ({ frames := 1, cells := 0, slots := 0, locals := 22 } : Room) 0 0 2 ∧ (Cond.static y_DC_valueAt).before args s = true := ⟨callB_of 2 hts (gw_in tw_420) rfl rfl rfl (hts _ (List.mem_cons_of_mem _ tw_14)) hl hd_DC_valueAt hR, hts _ (List.mem_cons_of_mem _ tw_419)⟩
def g_DC_oneError (x1 : Int32) (x2 : Int32) (x3 : Int32) : Int64 :=
  if (g_DC_over x2 x1) = 0 then ((-1)) else (if (g_DC_times (g_DC_times x2 (g_DC_over x2 x1)) (g_DC_over x2 x1)) = x3 then ((g_DC_errorAt (g_DC_over x2 x1) (g_DC_over x1 (g_DC_over x2 x1)))) else ((-1)))
set_option maxHeartbeats 4000000 in
set_option maxRecDepth 100000 in
theorem c_DC_oneError (l : Launch) {D : va_G} {ad : Nat → Nat} {cA : Nat → ClassId} {st : Nat → Nat} (hi : fl_inj ad 88) (M : fl_M) (x1 : Int32) (x2 : Int32) (x3 : Int32) : Met l y_DC_oneError w_DC_oneError ({ frames := 1, cells := 0, slots := 0, locals := 21 } : Room) (va_Pc [.int x1, .int x2, .int x3] (fl_B D cls (xt cA) (xSL st) xFN xMN ad (xc ad cA) 88 M)) (va_Ql (fun r M' => r = (g_DC_oneError x1 x2 x3) ∧ M' = M) (fl_E D cls ad (xc ad cA) 88) (fl_A ad 88)) 0 0 (fl_A ad 88) := by
  refine Met.ofW (cc := b_DC_oneError) (maxL := 5) (ret := (some .long)) (by decide) rfl ?_
  intro p e s m args below meth c s₁ B hml hv
  obtain ⟨rfl, hP, hK, hSt, hN⟩ := hv
  have hx := B.exec
  have hb := B.bytes
  have hr := B.returns
  have hts := atoms_spec (ws := w_DC_oneError) B.pre
  have hown : s.vm.findClass "FarLink$DownCode" = some m.cls := findClass_of_methodNamed B.named
  have hlocks := B.notSynchronized
  have hS : va_S (fl_A ad 88) s.heap s.heap [] := va_S.rf
  have hl := lv_entry ([.int x1, .int x2, .int x3]) (n := 5) (Nat.le_of_ble_eq_true rfl)
  rw [lg_entry_eq]
  generalize (lg_sl ([.int x1, .int x2, .int x3]) ++ List.replicate (5 - (lg_sl ([.int x1, .int x2, .int x3])).length) Slot.unset).toArray = ls at hl ⊢
  have hl : lv_has ls 5 [(0, .int x1), (1, .int x2), (2, .int x3)] := hl
  have hG := g_DC_oneError.eq_1 x1 x2 x3
  refine lv_iload_n hx hb d_DC_oneError_0 rfl (lv_at hl 1 rfl) ?_
  refine lv_iload_n hx hb d_DC_oneError_1 rfl (lv_at hl 0 rfl) ?_
  refine fl_calli (va_runS (As := [.int x2, .int x1]) (rest := []) ⟨hx, hb, hml, hown, hts⟩ (c_DC_over l hi M x2 x1) (kv_DC_over hts (hts _ (List.mem_cons_of_mem _ tw_432)) ⟨Nat.le_of_ble_eq_true rfl, Nat.le_of_ble_eq_true rfl⟩) (fl_preS hK hSt hN hS hP) rfl rfl hl.1 rfl (lv_room (Nat.le_of_ble_eq_true rfl)) d_DC_oneError_2 ⟨Nat.zero_le _, Nat.zero_le _⟩) hS (fun H locs hP hS => ?_)
  refine lv_istore_n (lv' := [(3, .int (g_DC_over x2 x1)), (0, .int x1), (1, .int x2), (2, .int x3)]) hx hb d_DC_oneError_5 rfl hl (by decide) rfl (fun ls hl => ?_)
  refine lv_iload_n hx hb d_DC_oneError_6 rfl (lv_at hl 2 rfl) ?_
  refine lv_iload_n hx hb d_DC_oneError_7 rfl (lv_at hl 0 rfl) ?_
  refine fl_calli (va_runS (As := [.int x2, .int (g_DC_over x2 x1)]) (rest := []) ⟨hx, hb, hml, hown, hts⟩ (c_DC_times l hi M x2 (g_DC_over x2 x1)) (kv_DC_times hts (hts _ (List.mem_cons_of_mem _ tw_424)) ⟨Nat.le_of_ble_eq_true rfl, Nat.le_of_ble_eq_true rfl⟩) (fl_preS hK hSt hN hS hP) rfl rfl hl.1 rfl (lv_room (Nat.le_of_ble_eq_true rfl)) d_DC_oneError_8 ⟨Nat.zero_le _, Nat.zero_le _⟩) hS (fun H locs hP hS => ?_)
  refine lv_istore (lv' := [(4, .int (g_DC_times x2 (g_DC_over x2 x1))), (3, .int (g_DC_over x2 x1)), (0, .int x1), (1, .int x2), (2, .int x3)]) hx hb d_DC_oneError_11 hl (by decide) rfl (fun ls hl => ?_)
  refine lv_iload_n hx hb d_DC_oneError_13 rfl (lv_at hl 1 rfl) ?_
  refine lv_if_eq (tgt := 27) hx hb d_DC_oneError_14 (by decide) (fun h_1 => ?_) (fun h_1 => ?_)
  ·
    have hG := hG.trans (if_pos h_1)
    refine lv_ldc2 (v := -1) hx hb hown (hts _ (List.mem_cons_of_mem _ tw_435)) d_DC_oneError_27 ?_
    exact fl_lret hx hb hr hlocks hP hS hG.symm rfl d_DC_oneError_30
  ·
    have hG := hG.trans (if_neg h_1)
    refine lv_iload hx hb d_DC_oneError_17 (lv_at hl 0 rfl) ?_
    refine lv_iload_n hx hb d_DC_oneError_19 rfl (lv_at hl 1 rfl) ?_
    refine fl_calli (va_runS (As := [.int (g_DC_times x2 (g_DC_over x2 x1)), .int (g_DC_over x2 x1)]) (rest := []) ⟨hx, hb, hml, hown, hts⟩ (c_DC_times l hi M (g_DC_times x2 (g_DC_over x2 x1)) (g_DC_over x2 x1)) (kv_DC_times hts (hts _ (List.mem_cons_of_mem _ tw_424)) ⟨Nat.le_of_ble_eq_true rfl, Nat.le_of_ble_eq_true rfl⟩) (fl_preS hK hSt hN hS hP) rfl rfl hl.1 rfl (lv_room (Nat.le_of_ble_eq_true rfl)) d_DC_oneError_20 ⟨Nat.zero_le _, Nat.zero_le _⟩) hS (fun H locs hP hS => ?_)
    refine lv_iload_n hx hb d_DC_oneError_23 rfl (lv_at hl 4 rfl) ?_
    refine lv_icmp_eq (tgt := 31) hx hb d_DC_oneError_24 (by decide) (fun h_2 => ?_) (fun h_2 => ?_)
    ·
      have hG := hG.trans (if_pos h_2)
      refine lv_iload_n hx hb d_DC_oneError_31 rfl (lv_at hl 1 rfl) ?_
      refine lv_iload_n hx hb d_DC_oneError_32 rfl (lv_at hl 2 rfl) ?_
      refine lv_iload_n hx hb d_DC_oneError_33 rfl (lv_at hl 1 rfl) ?_
      refine fl_calli (va_runS (As := [.int x1, .int (g_DC_over x2 x1)]) (rest := [.int (g_DC_over x2 x1)]) ⟨hx, hb, hml, hown, hts⟩ (c_DC_over l hi M x1 (g_DC_over x2 x1)) (kv_DC_over hts (hts _ (List.mem_cons_of_mem _ tw_432)) ⟨Nat.le_of_ble_eq_true rfl, Nat.le_of_ble_eq_true rfl⟩) (fl_preS hK hSt hN hS hP) rfl rfl hl.1 rfl (lv_room (Nat.le_of_ble_eq_true rfl)) d_DC_oneError_34 ⟨Nat.zero_le _, Nat.zero_le _⟩) hS (fun H locs hP hS => ?_)
      refine fl_calll (va_runS (As := [.int (g_DC_over x2 x1), .int (g_DC_over x1 (g_DC_over x2 x1))]) (rest := []) ⟨hx, hb, hml, hown, hts⟩ (c_DC_errorAt l hi M (g_DC_over x2 x1) (g_DC_over x1 (g_DC_over x2 x1))) (kv_DC_errorAt hts (hts _ (List.mem_cons_of_mem _ tw_436)) ⟨Nat.le_of_ble_eq_true rfl, Nat.le_of_ble_eq_true rfl⟩) (fl_preS hK hSt hN hS hP) rfl rfl hl.1 rfl (lv_room (Nat.le_of_ble_eq_true rfl)) d_DC_oneError_37 ⟨Nat.zero_le _, Nat.zero_le _⟩) hS (fun H locs hP hS => ?_)
      exact fl_lret hx hb hr hlocks hP hS hG.symm rfl d_DC_oneError_40
    ·
      have hG := hG.trans (if_neg h_2)
      refine lv_ldc2 (v := -1) hx hb hown (hts _ (List.mem_cons_of_mem _ tw_435)) d_DC_oneError_27 ?_
      exact fl_lret hx hb hr hlocks hP hS hG.symm rfl d_DC_oneError_30
theorem hd_DC_oneError : y_DC_oneError.cls ≠ "java/lang/invoke/MethodHandle" ∧ y_DC_oneError.cls ≠ "java/lang/invoke/VarHandle" ∧ (parseMethodDescriptor y_DC_oneError.desc).map (fun d => d.parameters.length) = some 3 := by decide +kernel
theorem kv_DC_oneError {R : Room} {s : State} {args : Array Value} {c0 : Cond} {own : String} {index : Nat} (hts : ∀ w ∈ c0 :: gw, w.before args s = true) (hl : (Cond.methodLink own index y_DC_oneError).before args s = true) (hR : 1 + 1 ≤ R.frames ∧ 8 + (5 + 11) + 21 ≤ R.locals) : CallB R s args own index y_DC_oneError b_DC_oneError 5 (some .long) w_DC_oneError ({ frames := 1, cells := 0, slots := 0, locals := 21 } : Room) 0 0 3 ∧ (Cond.static y_DC_oneError).before args s = true := ⟨callB_of 3 hts (gw_in tw_431) rfl rfl rfl (hts _ (List.mem_cons_of_mem _ tw_14)) hl hd_DC_oneError hR, hts _ (List.mem_cons_of_mem _ tw_430)⟩
def g_DC_twoErrors_L39 (x1 : Int32) (x2 : Int32) : Nat → Nat → Int32 → Int32 → Int64
  | 0, i_39, su, pr => (-1)
  | k_39 + 1, i_39, su, pr => if ((tb1 (nI i_39).toNatClampNeg) ^^^ su) = 0 then (g_DC_twoErrors_L39 x1 x2 k_39 (i_39 + 1) su pr) else (if ((tb1 (nI i_39).toNatClampNeg) ^^^ su) = (tb1 (nI i_39).toNatClampNeg) then (g_DC_twoErrors_L39 x1 x2 k_39 (i_39 + 1) su pr) else (if (g_DC_times (tb1 (nI i_39).toNatClampNeg) ((tb1 (nI i_39).toNatClampNeg) ^^^ su)) = pr then ((g_DC_errorAt (tb1 (nI i_39).toNatClampNeg) (g_DC_over ((g_DC_times x1 ((tb1 (nI i_39).toNatClampNeg) ^^^ su)) ^^^ x2) (g_DC_times (tb1 (nI i_39).toNatClampNeg) su))) ^^^ (g_DC_errorAt ((tb1 (nI i_39).toNatClampNeg) ^^^ su) (g_DC_over (x1 ^^^ (g_DC_times (g_DC_over ((g_DC_times x1 ((tb1 (nI i_39).toNatClampNeg) ^^^ su)) ^^^ x2) (g_DC_times (tb1 (nI i_39).toNatClampNeg) su)) (tb1 (nI i_39).toNatClampNeg))) ((tb1 (nI i_39).toNatClampNeg) ^^^ su)))) else (g_DC_twoErrors_L39 x1 x2 k_39 (i_39 + 1) su pr)))
def g_DC_twoErrors (x1 : Int32) (x2 : Int32) (x3 : Int32) (x4 : Int32) (x5 : Int32) : Int64 :=
  g_DC_twoErrors_L39 x1 x2 15 0 (g_DC_over ((g_DC_times x1 x4) ^^^ (g_DC_times x2 x3)) x5) (g_DC_over ((g_DC_times x2 x4) ^^^ (g_DC_times x3 x3)) x5)
set_option maxHeartbeats 4000000 in
set_option maxRecDepth 100000 in
theorem c_DC_twoErrors (l : Launch) {D : va_G} {ad : Nat → Nat} {cA : Nat → ClassId} {st : Nat → Nat} (hi : fl_inj ad 88) (M : fl_M) (x1 : Int32) (x2 : Int32) (x3 : Int32) (x4 : Int32) (x5 : Int32) : Met l y_DC_twoErrors w_DC_twoErrors ({ frames := 1, cells := 0, slots := 0, locals := 21 } : Room) (va_Pc [.int x1, .int x2, .int x3, .int x4, .int x5] (fl_B D cls (xt cA) (xSL st) xFN xMN ad (xc ad cA) 88 M)) (va_Ql (fun r M' => r = (g_DC_twoErrors x1 x2 x3 x4 x5) ∧ M' = M) (fl_E D cls ad (xc ad cA) 88) (fl_A ad 88)) 0 0 (fl_A ad 88) := by
  refine Met.ofW (cc := b_DC_twoErrors) (maxL := 12) (ret := (some .long)) (by decide) rfl ?_
  intro p e s m args below meth c s₁ B hml hv
  obtain ⟨rfl, hP, hK, hSt, hN⟩ := hv
  have hx := B.exec
  have hb := B.bytes
  have hr := B.returns
  have hts := atoms_spec (ws := w_DC_twoErrors) B.pre
  have hown : s.vm.findClass "FarLink$DownCode" = some m.cls := findClass_of_methodNamed B.named
  have hlocks := B.notSynchronized
  have hS : va_S (fl_A ad 88) s.heap s.heap [] := va_S.rf
  have hl := lv_entry ([.int x1, .int x2, .int x3, .int x4, .int x5]) (n := 12) (Nat.le_of_ble_eq_true rfl)
  rw [lg_entry_eq]
  generalize (lg_sl ([.int x1, .int x2, .int x3, .int x4, .int x5]) ++ List.replicate (12 - (lg_sl ([.int x1, .int x2, .int x3, .int x4, .int x5])).length) Slot.unset).toArray = ls at hl ⊢
  have hl : lv_has ls 12 [(0, .int x1), (1, .int x2), (2, .int x3), (3, .int x4), (4, .int x5)] := hl
  have hG := g_DC_twoErrors.eq_1 x1 x2 x3 x4 x5
  refine lv_iload_n hx hb d_DC_twoErrors_0 rfl (lv_at hl 0 rfl) ?_
  refine lv_iload_n hx hb d_DC_twoErrors_1 rfl (lv_at hl 3 rfl) ?_
  refine fl_calli (va_runS (As := [.int x1, .int x4]) (rest := []) ⟨hx, hb, hml, hown, hts⟩ (c_DC_times l hi M x1 x4) (kv_DC_times hts (hts _ (List.mem_cons_of_mem _ tw_424)) ⟨Nat.le_of_ble_eq_true rfl, Nat.le_of_ble_eq_true rfl⟩) (fl_preS hK hSt hN hS hP) rfl rfl hl.1 rfl (lv_room (Nat.le_of_ble_eq_true rfl)) d_DC_twoErrors_2 ⟨Nat.zero_le _, Nat.zero_le _⟩) hS (fun H locs hP hS => ?_)
  refine lv_iload_n hx hb d_DC_twoErrors_5 rfl (lv_at hl 1 rfl) ?_
  refine lv_iload_n hx hb d_DC_twoErrors_6 rfl (lv_at hl 2 rfl) ?_
  refine fl_calli (va_runS (As := [.int x2, .int x3]) (rest := [.int (g_DC_times x1 x4)]) ⟨hx, hb, hml, hown, hts⟩ (c_DC_times l hi M x2 x3) (kv_DC_times hts (hts _ (List.mem_cons_of_mem _ tw_424)) ⟨Nat.le_of_ble_eq_true rfl, Nat.le_of_ble_eq_true rfl⟩) (fl_preS hK hSt hN hS hP) rfl rfl hl.1 rfl (lv_room (Nat.le_of_ble_eq_true rfl)) d_DC_twoErrors_7 ⟨Nat.zero_le _, Nat.zero_le _⟩) hS (fun H locs hP hS => ?_)
  refine lv_ixor hx hb d_DC_twoErrors_10 ?_
  refine lv_iload hx hb d_DC_twoErrors_11 (lv_at hl 4 rfl) ?_
  refine fl_calli (va_runS (As := [.int ((g_DC_times x1 x4) ^^^ (g_DC_times x2 x3)), .int x5]) (rest := []) ⟨hx, hb, hml, hown, hts⟩ (c_DC_over l hi M ((g_DC_times x1 x4) ^^^ (g_DC_times x2 x3)) x5) (kv_DC_over hts (hts _ (List.mem_cons_of_mem _ tw_432)) ⟨Nat.le_of_ble_eq_true rfl, Nat.le_of_ble_eq_true rfl⟩) (fl_preS hK hSt hN hS hP) rfl rfl hl.1 rfl (lv_room (Nat.le_of_ble_eq_true rfl)) d_DC_twoErrors_13 ⟨Nat.zero_le _, Nat.zero_le _⟩) hS (fun H locs hP hS => ?_)
  refine lv_istore (lv' := [(5, .int (g_DC_over ((g_DC_times x1 x4) ^^^ (g_DC_times x2 x3)) x5)), (0, .int x1), (1, .int x2), (2, .int x3), (3, .int x4), (4, .int x5)]) hx hb d_DC_twoErrors_16 hl (by decide) rfl (fun ls hl => ?_)
  refine lv_iload_n hx hb d_DC_twoErrors_18 rfl (lv_at hl 2 rfl) ?_
  refine lv_iload_n hx hb d_DC_twoErrors_19 rfl (lv_at hl 4 rfl) ?_
  refine fl_calli (va_runS (As := [.int x2, .int x4]) (rest := []) ⟨hx, hb, hml, hown, hts⟩ (c_DC_times l hi M x2 x4) (kv_DC_times hts (hts _ (List.mem_cons_of_mem _ tw_424)) ⟨Nat.le_of_ble_eq_true rfl, Nat.le_of_ble_eq_true rfl⟩) (fl_preS hK hSt hN hS hP) rfl rfl hl.1 rfl (lv_room (Nat.le_of_ble_eq_true rfl)) d_DC_twoErrors_20 ⟨Nat.zero_le _, Nat.zero_le _⟩) hS (fun H locs hP hS => ?_)
  refine lv_iload_n hx hb d_DC_twoErrors_23 rfl (lv_at hl 3 rfl) ?_
  refine lv_iload_n hx hb d_DC_twoErrors_24 rfl (lv_at hl 3 rfl) ?_
  refine fl_calli (va_runS (As := [.int x3, .int x3]) (rest := [.int (g_DC_times x2 x4)]) ⟨hx, hb, hml, hown, hts⟩ (c_DC_times l hi M x3 x3) (kv_DC_times hts (hts _ (List.mem_cons_of_mem _ tw_424)) ⟨Nat.le_of_ble_eq_true rfl, Nat.le_of_ble_eq_true rfl⟩) (fl_preS hK hSt hN hS hP) rfl rfl hl.1 rfl (lv_room (Nat.le_of_ble_eq_true rfl)) d_DC_twoErrors_25 ⟨Nat.zero_le _, Nat.zero_le _⟩) hS (fun H locs hP hS => ?_)
  refine lv_ixor hx hb d_DC_twoErrors_28 ?_
  refine lv_iload hx hb d_DC_twoErrors_29 (lv_at hl 5 rfl) ?_
  refine fl_calli (va_runS (As := [.int ((g_DC_times x2 x4) ^^^ (g_DC_times x3 x3)), .int x5]) (rest := []) ⟨hx, hb, hml, hown, hts⟩ (c_DC_over l hi M ((g_DC_times x2 x4) ^^^ (g_DC_times x3 x3)) x5) (kv_DC_over hts (hts _ (List.mem_cons_of_mem _ tw_432)) ⟨Nat.le_of_ble_eq_true rfl, Nat.le_of_ble_eq_true rfl⟩) (fl_preS hK hSt hN hS hP) rfl rfl hl.1 rfl (lv_room (Nat.le_of_ble_eq_true rfl)) d_DC_twoErrors_31 ⟨Nat.zero_le _, Nat.zero_le _⟩) hS (fun H locs hP hS => ?_)
  refine lv_istore (lv' := [(6, .int (g_DC_over ((g_DC_times x2 x4) ^^^ (g_DC_times x3 x3)) x5)), (5, .int (g_DC_over ((g_DC_times x1 x4) ^^^ (g_DC_times x2 x3)) x5)), (0, .int x1), (1, .int x2), (2, .int x3), (3, .int x4), (4, .int x5)]) hx hb d_DC_twoErrors_34 hl (by decide) rfl (fun ls hl => ?_)
  refine lv_iconst (v := 0) hx hb d_DC_twoErrors_36 (by decide) ?_
  refine lv_istore (lv' := [(7, .int 0), (6, .int (g_DC_over ((g_DC_times x2 x4) ^^^ (g_DC_times x3 x3)) x5)), (5, .int (g_DC_over ((g_DC_times x1 x4) ^^^ (g_DC_times x2 x3)) x5)), (0, .int x1), (1, .int x2), (2, .int x3), (3, .int x4), (4, .int x5)]) hx hb d_DC_twoErrors_37 hl (by decide) rfl (fun ls hl => ?_)
  have lp_39 : ∀ (k_39 : Nat) (i_39 : Nat) (su : Int32) (pr : Int32) (ls : Array Slot) (H : Heap) (locs : List Loc), i_39 + k_39 = 15 → lv_has ls 12 [(0, .int x1), (1, .int x2), (5, .int su), (6, .int pr), (7, .int (nI i_39))] → va_P D cls (fl_w ad (xc ad cA) 88 M) H → va_S (fl_A ad 88) s.heap H locs → g_DC_twoErrors x1 x2 x3 x4 x5 = g_DC_twoErrors_L39 x1 x2 k_39 i_39 su pr → W p l e (headSpec w_DC_twoErrors ({ frames := 1, cells := 0, slots := 0, locals := 21 } : Room)).room s m ([.int x1, .int x2, .int x3, .int x4, .int x5] : List Value).toArray below meth c H locs 0 0 (MQ below (va_Ql (fun r M' => r = (g_DC_twoErrors x1 x2 x3 x4 x5) ∧ M' = M) (fl_E D cls ad (xc ad cA) 88) (fl_A ad 88)) ([.int x1, .int x2, .int x3, .int x4, .int x5] : List Value).toArray s 0 0 (fl_A ad 88)) (F0 m 39 ls []) := by
    intro k_39
    induction k_39 with
    | zero =>
      intro i_39 su pr ls H locs hbd hl hP hS hG
      have hG := hG.trans (g_DC_twoErrors_L39.eq_1 ..)
      refine lv_iload hx hb d_DC_twoErrors_39 (lv_at hl 4 rfl) ?_
      refine lv_bipush (v := 15) hx hb d_DC_twoErrors_41 (by decide) ?_
      refine lv_icmp_ge (tgt := 143) hx hb d_DC_twoErrors_43 (by decide) (fun _ => ?_) (fun h_1 => absurd (fl_le (b := 15) rfl (by omega) (by omega)) h_1)
      refine lv_ldc2 (v := -1) hx hb hown (hts _ (List.mem_cons_of_mem _ tw_435)) d_DC_twoErrors_143 ?_
      exact fl_lret hx hb hr hlocks hP hS hG.symm rfl d_DC_twoErrors_146
    | succ k_39 ih_39 =>
      intro i_39 su pr ls H locs hbd hl hP hS hG
      have hG := hG.trans (g_DC_twoErrors_L39.eq_2 ..)
      refine lv_iload hx hb d_DC_twoErrors_39 (lv_at hl 4 rfl) ?_
      refine lv_bipush (v := 15) hx hb d_DC_twoErrors_41 (by decide) ?_
      refine lv_icmp_ge (tgt := 143) hx hb d_DC_twoErrors_43 (by decide) (fun h_2 => absurd h_2 (fl_nle (b := 15) rfl (by omega) (by omega))) (fun _ => ?_)
      refine va_gets hx hb (hSt _ (List.mem_of_getElem? (i := 1) rfl)).1 hS hown (hts _ (List.mem_cons_of_mem _ tw_422)) (fun _ h => h) d_DC_twoErrors_46 ?_
      refine lv_iload hx hb d_DC_twoErrors_49 (lv_at hl 4 rfl) ?_
      refine fl_tab hx hb (hSt _ (List.mem_of_getElem? (i := 1) rfl)).2 hS (show vp_in (nI i_39) 15 from vp_in_nI (by omega) (by decide)) d_DC_twoErrors_51 ?_
      refine lv_istore (lv' := [(8, .int (tb1 (nI i_39).toNatClampNeg)), (0, .int x1), (1, .int x2), (5, .int su), (6, .int pr), (7, .int (nI i_39))]) hx hb d_DC_twoErrors_52 hl (by decide) rfl (fun ls hl => ?_)
      refine lv_iload hx hb d_DC_twoErrors_54 (lv_at hl 0 rfl) ?_
      refine lv_iload hx hb d_DC_twoErrors_56 (lv_at hl 3 rfl) ?_
      refine lv_ixor hx hb d_DC_twoErrors_58 ?_
      refine lv_istore (lv' := [(9, .int ((tb1 (nI i_39).toNatClampNeg) ^^^ su)), (8, .int (tb1 (nI i_39).toNatClampNeg)), (0, .int x1), (1, .int x2), (5, .int su), (6, .int pr), (7, .int (nI i_39))]) hx hb d_DC_twoErrors_59 hl (by decide) rfl (fun ls hl => ?_)
      refine lv_iload hx hb d_DC_twoErrors_61 (lv_at hl 0 rfl) ?_
      refine lv_if_eq (tgt := 137) hx hb d_DC_twoErrors_63 (by decide) (fun h_3 => ?_) (fun h_3 => ?_)
      ·
        have hG := hG.trans (if_pos h_3)
        refine lv_iinc (k := 6) (v := nI (i_39 + 1)) (lv' := [(7, .int (nI (i_39 + 1))), (9, .int ((tb1 (nI i_39).toNatClampNeg) ^^^ su)), (8, .int (tb1 (nI i_39).toNatClampNeg)), (0, .int x1), (1, .int x2), (5, .int su), (6, .int pr)]) hx hb d_DC_twoErrors_137 hl rfl (fl_inc _) (by decide) rfl (fun ls hl => ?_)
        refine lv_goto (tgt := 39) hx hb d_DC_twoErrors_140 (by decide) ?_
        have hl := lv_sub (l' := [(0, .int x1), (1, .int x2), (5, .int su), (6, .int pr), (7, .int (nI (i_39 + 1)))]) hl [3, 4, 5, 6, 0] rfl
        exact ih_39 (i_39 + 1) su pr ls _ _ (by omega) hl hP hS hG
      ·
        have hG := hG.trans (if_neg h_3)
        refine lv_iload hx hb d_DC_twoErrors_66 (lv_at hl 0 rfl) ?_
        refine lv_iload hx hb d_DC_twoErrors_68 (lv_at hl 1 rfl) ?_
        refine lv_icmp_eq (tgt := 137) hx hb d_DC_twoErrors_70 (by decide) (fun h_4 => ?_) (fun h_4 => ?_)
        ·
          have hG := hG.trans (if_pos h_4)
          refine lv_iinc (k := 6) (v := nI (i_39 + 1)) (lv' := [(7, .int (nI (i_39 + 1))), (9, .int ((tb1 (nI i_39).toNatClampNeg) ^^^ su)), (8, .int (tb1 (nI i_39).toNatClampNeg)), (0, .int x1), (1, .int x2), (5, .int su), (6, .int pr)]) hx hb d_DC_twoErrors_137 hl rfl (fl_inc _) (by decide) rfl (fun ls hl => ?_)
          refine lv_goto (tgt := 39) hx hb d_DC_twoErrors_140 (by decide) ?_
          have hl := lv_sub (l' := [(0, .int x1), (1, .int x2), (5, .int su), (6, .int pr), (7, .int (nI (i_39 + 1)))]) hl [3, 4, 5, 6, 0] rfl
          exact ih_39 (i_39 + 1) su pr ls _ _ (by omega) hl hP hS hG
        ·
          have hG := hG.trans (if_neg h_4)
          refine lv_iload hx hb d_DC_twoErrors_73 (lv_at hl 1 rfl) ?_
          refine lv_iload hx hb d_DC_twoErrors_75 (lv_at hl 0 rfl) ?_
          refine fl_calli (va_runS (As := [.int (tb1 (nI i_39).toNatClampNeg), .int ((tb1 (nI i_39).toNatClampNeg) ^^^ su)]) (rest := []) ⟨hx, hb, hml, hown, hts⟩ (c_DC_times l hi M (tb1 (nI i_39).toNatClampNeg) ((tb1 (nI i_39).toNatClampNeg) ^^^ su)) (kv_DC_times hts (hts _ (List.mem_cons_of_mem _ tw_424)) ⟨Nat.le_of_ble_eq_true rfl, Nat.le_of_ble_eq_true rfl⟩) (fl_preS hK hSt hN hS hP) rfl rfl hl.1 rfl (lv_room (Nat.le_of_ble_eq_true rfl)) d_DC_twoErrors_77 ⟨Nat.zero_le _, Nat.zero_le _⟩) hS (fun H locs hP hS => ?_)
          refine lv_iload hx hb d_DC_twoErrors_80 (lv_at hl 5 rfl) ?_
          refine lv_icmp_ne (tgt := 137) hx hb d_DC_twoErrors_82 (by decide) (fun h_5 => ?_) (fun h_5 => ?_)
          ·
            have hG := hG.trans (if_neg h_5)
            refine lv_iinc (k := 6) (v := nI (i_39 + 1)) (lv' := [(7, .int (nI (i_39 + 1))), (9, .int ((tb1 (nI i_39).toNatClampNeg) ^^^ su)), (8, .int (tb1 (nI i_39).toNatClampNeg)), (0, .int x1), (1, .int x2), (5, .int su), (6, .int pr)]) hx hb d_DC_twoErrors_137 hl rfl (fl_inc _) (by decide) rfl (fun ls hl => ?_)
            refine lv_goto (tgt := 39) hx hb d_DC_twoErrors_140 (by decide) ?_
            have hl := lv_sub (l' := [(0, .int x1), (1, .int x2), (5, .int su), (6, .int pr), (7, .int (nI (i_39 + 1)))]) hl [3, 4, 5, 6, 0] rfl
            exact ih_39 (i_39 + 1) su pr ls _ _ (by omega) hl hP hS hG
          ·
            have hG := hG.trans (if_pos h_5)
            refine lv_iload_n hx hb d_DC_twoErrors_85 rfl (lv_at hl 2 rfl) ?_
            refine lv_iload hx hb d_DC_twoErrors_86 (lv_at hl 0 rfl) ?_
            refine fl_calli (va_runS (As := [.int x1, .int ((tb1 (nI i_39).toNatClampNeg) ^^^ su)]) (rest := []) ⟨hx, hb, hml, hown, hts⟩ (c_DC_times l hi M x1 ((tb1 (nI i_39).toNatClampNeg) ^^^ su)) (kv_DC_times hts (hts _ (List.mem_cons_of_mem _ tw_424)) ⟨Nat.le_of_ble_eq_true rfl, Nat.le_of_ble_eq_true rfl⟩) (fl_preS hK hSt hN hS hP) rfl rfl hl.1 rfl (lv_room (Nat.le_of_ble_eq_true rfl)) d_DC_twoErrors_88 ⟨Nat.zero_le _, Nat.zero_le _⟩) hS (fun H locs hP hS => ?_)
            refine lv_iload_n hx hb d_DC_twoErrors_91 rfl (lv_at hl 3 rfl) ?_
            refine lv_ixor hx hb d_DC_twoErrors_92 ?_
            refine lv_iload hx hb d_DC_twoErrors_93 (lv_at hl 1 rfl) ?_
            refine lv_iload hx hb d_DC_twoErrors_95 (lv_at hl 4 rfl) ?_
            refine fl_calli (va_runS (As := [.int (tb1 (nI i_39).toNatClampNeg), .int su]) (rest := [.int ((g_DC_times x1 ((tb1 (nI i_39).toNatClampNeg) ^^^ su)) ^^^ x2)]) ⟨hx, hb, hml, hown, hts⟩ (c_DC_times l hi M (tb1 (nI i_39).toNatClampNeg) su) (kv_DC_times hts (hts _ (List.mem_cons_of_mem _ tw_424)) ⟨Nat.le_of_ble_eq_true rfl, Nat.le_of_ble_eq_true rfl⟩) (fl_preS hK hSt hN hS hP) rfl rfl hl.1 rfl (lv_room (Nat.le_of_ble_eq_true rfl)) d_DC_twoErrors_97 ⟨Nat.zero_le _, Nat.zero_le _⟩) hS (fun H locs hP hS => ?_)
            refine fl_calli (va_runS (As := [.int ((g_DC_times x1 ((tb1 (nI i_39).toNatClampNeg) ^^^ su)) ^^^ x2), .int (g_DC_times (tb1 (nI i_39).toNatClampNeg) su)]) (rest := []) ⟨hx, hb, hml, hown, hts⟩ (c_DC_over l hi M ((g_DC_times x1 ((tb1 (nI i_39).toNatClampNeg) ^^^ su)) ^^^ x2) (g_DC_times (tb1 (nI i_39).toNatClampNeg) su)) (kv_DC_over hts (hts _ (List.mem_cons_of_mem _ tw_432)) ⟨Nat.le_of_ble_eq_true rfl, Nat.le_of_ble_eq_true rfl⟩) (fl_preS hK hSt hN hS hP) rfl rfl hl.1 rfl (lv_room (Nat.le_of_ble_eq_true rfl)) d_DC_twoErrors_100 ⟨Nat.zero_le _, Nat.zero_le _⟩) hS (fun H locs hP hS => ?_)
            refine lv_istore (lv' := [(10, .int (g_DC_over ((g_DC_times x1 ((tb1 (nI i_39).toNatClampNeg) ^^^ su)) ^^^ x2) (g_DC_times (tb1 (nI i_39).toNatClampNeg) su))), (9, .int ((tb1 (nI i_39).toNatClampNeg) ^^^ su)), (8, .int (tb1 (nI i_39).toNatClampNeg)), (0, .int x1), (1, .int x2), (5, .int su), (6, .int pr), (7, .int (nI i_39))]) hx hb d_DC_twoErrors_103 hl (by decide) rfl (fun ls hl => ?_)
            refine lv_iload_n hx hb d_DC_twoErrors_105 rfl (lv_at hl 3 rfl) ?_
            refine lv_iload hx hb d_DC_twoErrors_106 (lv_at hl 0 rfl) ?_
            refine lv_iload hx hb d_DC_twoErrors_108 (lv_at hl 2 rfl) ?_
            refine fl_calli (va_runS (As := [.int (g_DC_over ((g_DC_times x1 ((tb1 (nI i_39).toNatClampNeg) ^^^ su)) ^^^ x2) (g_DC_times (tb1 (nI i_39).toNatClampNeg) su)), .int (tb1 (nI i_39).toNatClampNeg)]) (rest := [.int x1]) ⟨hx, hb, hml, hown, hts⟩ (c_DC_times l hi M (g_DC_over ((g_DC_times x1 ((tb1 (nI i_39).toNatClampNeg) ^^^ su)) ^^^ x2) (g_DC_times (tb1 (nI i_39).toNatClampNeg) su)) (tb1 (nI i_39).toNatClampNeg)) (kv_DC_times hts (hts _ (List.mem_cons_of_mem _ tw_424)) ⟨Nat.le_of_ble_eq_true rfl, Nat.le_of_ble_eq_true rfl⟩) (fl_preS hK hSt hN hS hP) rfl rfl hl.1 rfl (lv_room (Nat.le_of_ble_eq_true rfl)) d_DC_twoErrors_110 ⟨Nat.zero_le _, Nat.zero_le _⟩) hS (fun H locs hP hS => ?_)
            refine lv_ixor hx hb d_DC_twoErrors_113 ?_
            refine lv_iload hx hb d_DC_twoErrors_114 (lv_at hl 1 rfl) ?_
            refine fl_calli (va_runS (As := [.int (x1 ^^^ (g_DC_times (g_DC_over ((g_DC_times x1 ((tb1 (nI i_39).toNatClampNeg) ^^^ su)) ^^^ x2) (g_DC_times (tb1 (nI i_39).toNatClampNeg) su)) (tb1 (nI i_39).toNatClampNeg))), .int ((tb1 (nI i_39).toNatClampNeg) ^^^ su)]) (rest := []) ⟨hx, hb, hml, hown, hts⟩ (c_DC_over l hi M (x1 ^^^ (g_DC_times (g_DC_over ((g_DC_times x1 ((tb1 (nI i_39).toNatClampNeg) ^^^ su)) ^^^ x2) (g_DC_times (tb1 (nI i_39).toNatClampNeg) su)) (tb1 (nI i_39).toNatClampNeg))) ((tb1 (nI i_39).toNatClampNeg) ^^^ su)) (kv_DC_over hts (hts _ (List.mem_cons_of_mem _ tw_432)) ⟨Nat.le_of_ble_eq_true rfl, Nat.le_of_ble_eq_true rfl⟩) (fl_preS hK hSt hN hS hP) rfl rfl hl.1 rfl (lv_room (Nat.le_of_ble_eq_true rfl)) d_DC_twoErrors_116 ⟨Nat.zero_le _, Nat.zero_le _⟩) hS (fun H locs hP hS => ?_)
            refine lv_istore (lv' := [(11, .int (g_DC_over (x1 ^^^ (g_DC_times (g_DC_over ((g_DC_times x1 ((tb1 (nI i_39).toNatClampNeg) ^^^ su)) ^^^ x2) (g_DC_times (tb1 (nI i_39).toNatClampNeg) su)) (tb1 (nI i_39).toNatClampNeg))) ((tb1 (nI i_39).toNatClampNeg) ^^^ su))), (10, .int (g_DC_over ((g_DC_times x1 ((tb1 (nI i_39).toNatClampNeg) ^^^ su)) ^^^ x2) (g_DC_times (tb1 (nI i_39).toNatClampNeg) su))), (9, .int ((tb1 (nI i_39).toNatClampNeg) ^^^ su)), (8, .int (tb1 (nI i_39).toNatClampNeg)), (0, .int x1), (1, .int x2), (5, .int su), (6, .int pr), (7, .int (nI i_39))]) hx hb d_DC_twoErrors_119 hl (by decide) rfl (fun ls hl => ?_)
            refine lv_iload hx hb d_DC_twoErrors_121 (lv_at hl 3 rfl) ?_
            refine lv_iload hx hb d_DC_twoErrors_123 (lv_at hl 1 rfl) ?_
            refine fl_calll (va_runS (As := [.int (tb1 (nI i_39).toNatClampNeg), .int (g_DC_over ((g_DC_times x1 ((tb1 (nI i_39).toNatClampNeg) ^^^ su)) ^^^ x2) (g_DC_times (tb1 (nI i_39).toNatClampNeg) su))]) (rest := []) ⟨hx, hb, hml, hown, hts⟩ (c_DC_errorAt l hi M (tb1 (nI i_39).toNatClampNeg) (g_DC_over ((g_DC_times x1 ((tb1 (nI i_39).toNatClampNeg) ^^^ su)) ^^^ x2) (g_DC_times (tb1 (nI i_39).toNatClampNeg) su))) (kv_DC_errorAt hts (hts _ (List.mem_cons_of_mem _ tw_436)) ⟨Nat.le_of_ble_eq_true rfl, Nat.le_of_ble_eq_true rfl⟩) (fl_preS hK hSt hN hS hP) rfl rfl hl.1 rfl (lv_room (Nat.le_of_ble_eq_true rfl)) d_DC_twoErrors_125 ⟨Nat.zero_le _, Nat.zero_le _⟩) hS (fun H locs hP hS => ?_)
            refine lv_iload hx hb d_DC_twoErrors_128 (lv_at hl 2 rfl) ?_
            refine lv_iload hx hb d_DC_twoErrors_130 (lv_at hl 0 rfl) ?_
            refine fl_calll (va_runS (As := [.int ((tb1 (nI i_39).toNatClampNeg) ^^^ su), .int (g_DC_over (x1 ^^^ (g_DC_times (g_DC_over ((g_DC_times x1 ((tb1 (nI i_39).toNatClampNeg) ^^^ su)) ^^^ x2) (g_DC_times (tb1 (nI i_39).toNatClampNeg) su)) (tb1 (nI i_39).toNatClampNeg))) ((tb1 (nI i_39).toNatClampNeg) ^^^ su))]) (rest := [.long (g_DC_errorAt (tb1 (nI i_39).toNatClampNeg) (g_DC_over ((g_DC_times x1 ((tb1 (nI i_39).toNatClampNeg) ^^^ su)) ^^^ x2) (g_DC_times (tb1 (nI i_39).toNatClampNeg) su)))]) ⟨hx, hb, hml, hown, hts⟩ (c_DC_errorAt l hi M ((tb1 (nI i_39).toNatClampNeg) ^^^ su) (g_DC_over (x1 ^^^ (g_DC_times (g_DC_over ((g_DC_times x1 ((tb1 (nI i_39).toNatClampNeg) ^^^ su)) ^^^ x2) (g_DC_times (tb1 (nI i_39).toNatClampNeg) su)) (tb1 (nI i_39).toNatClampNeg))) ((tb1 (nI i_39).toNatClampNeg) ^^^ su))) (kv_DC_errorAt hts (hts _ (List.mem_cons_of_mem _ tw_436)) ⟨Nat.le_of_ble_eq_true rfl, Nat.le_of_ble_eq_true rfl⟩) (fl_preS hK hSt hN hS hP) rfl rfl hl.1 rfl (lv_room (Nat.le_of_ble_eq_true rfl)) d_DC_twoErrors_132 ⟨Nat.zero_le _, Nat.zero_le _⟩) hS (fun H locs hP hS => ?_)
            refine lv_lxor hx hb d_DC_twoErrors_135 ?_
            exact fl_lret hx hb hr hlocks hP hS hG.symm rfl d_DC_twoErrors_136
  have hl := lv_sub (l' := [(0, .int x1), (1, .int x2), (5, .int (g_DC_over ((g_DC_times x1 x4) ^^^ (g_DC_times x2 x3)) x5)), (6, .int (g_DC_over ((g_DC_times x2 x4) ^^^ (g_DC_times x3 x3)) x5)), (7, .int (nI 0))]) hl [3, 4, 2, 1, 0] rfl
  exact lp_39 15 0 (g_DC_over ((g_DC_times x1 x4) ^^^ (g_DC_times x2 x3)) x5) (g_DC_over ((g_DC_times x2 x4) ^^^ (g_DC_times x3 x3)) x5) ls _ _ (by omega) hl hP hS hG
theorem hd_DC_twoErrors : y_DC_twoErrors.cls ≠ "java/lang/invoke/MethodHandle" ∧ y_DC_twoErrors.cls ≠ "java/lang/invoke/VarHandle" ∧ (parseMethodDescriptor y_DC_twoErrors.desc).map (fun d => d.parameters.length) = some 5 := by decide +kernel
theorem kv_DC_twoErrors {R : Room} {s : State} {args : Array Value} {c0 : Cond} {own : String} {index : Nat} (hts : ∀ w ∈ c0 :: gw, w.before args s = true) (hl : (Cond.methodLink own index y_DC_twoErrors).before args s = true) (hR : 1 + 1 ≤ R.frames ∧ 8 + (12 + 11) + 21 ≤ R.locals) : CallB R s args own index y_DC_twoErrors b_DC_twoErrors 12 (some .long) w_DC_twoErrors ({ frames := 1, cells := 0, slots := 0, locals := 21 } : Room) 0 0 5 ∧ (Cond.static y_DC_twoErrors).before args s = true := ⟨callB_of 5 hts (gw_in tw_441) rfl rfl rfl (hts _ (List.mem_cons_of_mem _ tw_14)) hl hd_DC_twoErrors hR, hts _ (List.mem_cons_of_mem _ tw_440)⟩
def g_DC_infoOf (x1 : Int64) : Int64 :=
  if (g_DC_syndromeOf x1) = 0 then ((j_lushr x1 16) &&& 17592186044415) else (if ((g_DC_times (g_DC_valueAt 1 (g_DC_syndromeOf x1)) (g_DC_valueAt 3 (g_DC_syndromeOf x1))) ^^^ (g_DC_times (g_DC_valueAt 2 (g_DC_syndromeOf x1)) (g_DC_valueAt 2 (g_DC_syndromeOf x1)))) = 0 then (if (lg_cmp (g_DC_oneError (g_DC_valueAt 1 (g_DC_syndromeOf x1)) (g_DC_valueAt 2 (g_DC_syndromeOf x1)) (g_DC_valueAt 4 (g_DC_syndromeOf x1))) (-1)) = 0 then ((-1)) else ((j_lushr (x1 ^^^ (g_DC_oneError (g_DC_valueAt 1 (g_DC_syndromeOf x1)) (g_DC_valueAt 2 (g_DC_syndromeOf x1)) (g_DC_valueAt 4 (g_DC_syndromeOf x1)))) 16) &&& 17592186044415)) else (if (lg_cmp (g_DC_twoErrors (g_DC_valueAt 1 (g_DC_syndromeOf x1)) (g_DC_valueAt 2 (g_DC_syndromeOf x1)) (g_DC_valueAt 3 (g_DC_syndromeOf x1)) (g_DC_valueAt 4 (g_DC_syndromeOf x1)) ((g_DC_times (g_DC_valueAt 1 (g_DC_syndromeOf x1)) (g_DC_valueAt 3 (g_DC_syndromeOf x1))) ^^^ (g_DC_times (g_DC_valueAt 2 (g_DC_syndromeOf x1)) (g_DC_valueAt 2 (g_DC_syndromeOf x1))))) (-1)) = 0 then ((-1)) else ((j_lushr (x1 ^^^ (g_DC_twoErrors (g_DC_valueAt 1 (g_DC_syndromeOf x1)) (g_DC_valueAt 2 (g_DC_syndromeOf x1)) (g_DC_valueAt 3 (g_DC_syndromeOf x1)) (g_DC_valueAt 4 (g_DC_syndromeOf x1)) ((g_DC_times (g_DC_valueAt 1 (g_DC_syndromeOf x1)) (g_DC_valueAt 3 (g_DC_syndromeOf x1))) ^^^ (g_DC_times (g_DC_valueAt 2 (g_DC_syndromeOf x1)) (g_DC_valueAt 2 (g_DC_syndromeOf x1)))))) 16) &&& 17592186044415)))
set_option maxHeartbeats 4000000 in
set_option maxRecDepth 100000 in
theorem c_DC_infoOf (l : Launch) {D : va_G} {ad : Nat → Nat} {cA : Nat → ClassId} {st : Nat → Nat} (hi : fl_inj ad 88) (M : fl_M) (x1 : Int64) : Met l y_DC_infoOf w_DC_infoOf ({ frames := 3, cells := 0, slots := 0, locals := 73 } : Room) (va_Pc [.long x1] (fl_B D cls (xt cA) (xSL st) xFN xMN ad (xc ad cA) 88 M)) (va_Ql (fun r M' => r = (g_DC_infoOf x1) ∧ M' = M) (fl_E D cls ad (xc ad cA) 88) (fl_A ad 88)) 0 0 (fl_A ad 88) := by
  refine Met.ofW (cc := b_DC_infoOf) (maxL := 10) (ret := (some .long)) (by decide) rfl ?_
  intro p e s m args below meth c s₁ B hml hv
  obtain ⟨rfl, hP, hK, hSt, hN⟩ := hv
  have hx := B.exec
  have hb := B.bytes
  have hr := B.returns
  have hts := atoms_spec (ws := w_DC_infoOf) B.pre
  have hown : s.vm.findClass "FarLink$DownCode" = some m.cls := findClass_of_methodNamed B.named
  have hlocks := B.notSynchronized
  have hS : va_S (fl_A ad 88) s.heap s.heap [] := va_S.rf
  have hl := lv_entry ([.long x1]) (n := 10) (Nat.le_of_ble_eq_true rfl)
  rw [lg_entry_eq]
  generalize (lg_sl ([.long x1]) ++ List.replicate (10 - (lg_sl ([.long x1])).length) Slot.unset).toArray = ls at hl ⊢
  have hl : lv_has ls 10 [(0, .long x1)] := hl
  have hG := g_DC_infoOf.eq_1 x1
  refine lv_lload_n hx hb d_DC_infoOf_0 rfl (lv_at hl 0 rfl) ?_
  refine fl_calli (va_runS (As := [.long x1]) (rest := []) ⟨hx, hb, hml, hown, hts⟩ (c_DC_syndromeOf l hi M x1) (kv_DC_syndromeOf hts (hts _ (List.mem_cons_of_mem _ tw_410)) ⟨Nat.le_of_ble_eq_true rfl, Nat.le_of_ble_eq_true rfl⟩) (fl_preS hK hSt hN hS hP) rfl rfl hl.1 rfl (lv_room (Nat.le_of_ble_eq_true rfl)) d_DC_infoOf_1 ⟨Nat.zero_le _, Nat.zero_le _⟩) hS (fun H locs hP hS => ?_)
  refine lv_istore_n (lv' := [(2, .int (g_DC_syndromeOf x1)), (0, .long x1)]) hx hb d_DC_infoOf_4 rfl hl (by decide) rfl (fun ls hl => ?_)
  refine lv_iload_n hx hb d_DC_infoOf_5 rfl (lv_at hl 0 rfl) ?_
  refine lv_if_ne (tgt := 18) hx hb d_DC_infoOf_6 (by decide) (fun h_1 => ?_) (fun h_1 => ?_)
  ·
    have hG := hG.trans (if_neg h_1)
    refine lv_iconst (v := 1) hx hb d_DC_infoOf_18 (by decide) ?_
    refine lv_iload_n hx hb d_DC_infoOf_19 rfl (lv_at hl 0 rfl) ?_
    refine fl_calli (va_runS (As := [.int 1, .int (g_DC_syndromeOf x1)]) (rest := []) ⟨hx, hb, hml, hown, hts⟩ (c_DC_valueAt l hi M 1 (g_DC_syndromeOf x1) (⟨1, by decide, rfl⟩)) (kv_DC_valueAt hts (hts _ (List.mem_cons_of_mem _ tw_418)) ⟨Nat.le_of_ble_eq_true rfl, Nat.le_of_ble_eq_true rfl⟩) (fl_preS hK hSt hN hS hP) rfl rfl hl.1 rfl (lv_room (Nat.le_of_ble_eq_true rfl)) d_DC_infoOf_20 ⟨Nat.zero_le _, Nat.zero_le _⟩) hS (fun H locs hP hS => ?_)
    refine lv_istore_n (lv' := [(3, .int (g_DC_valueAt 1 (g_DC_syndromeOf x1))), (2, .int (g_DC_syndromeOf x1)), (0, .long x1)]) hx hb d_DC_infoOf_23 rfl hl (by decide) rfl (fun ls hl => ?_)
    refine lv_iconst (v := 2) hx hb d_DC_infoOf_24 (by decide) ?_
    refine lv_iload_n hx hb d_DC_infoOf_25 rfl (lv_at hl 1 rfl) ?_
    refine fl_calli (va_runS (As := [.int 2, .int (g_DC_syndromeOf x1)]) (rest := []) ⟨hx, hb, hml, hown, hts⟩ (c_DC_valueAt l hi M 2 (g_DC_syndromeOf x1) (⟨2, by decide, rfl⟩)) (kv_DC_valueAt hts (hts _ (List.mem_cons_of_mem _ tw_418)) ⟨Nat.le_of_ble_eq_true rfl, Nat.le_of_ble_eq_true rfl⟩) (fl_preS hK hSt hN hS hP) rfl rfl hl.1 rfl (lv_room (Nat.le_of_ble_eq_true rfl)) d_DC_infoOf_26 ⟨Nat.zero_le _, Nat.zero_le _⟩) hS (fun H locs hP hS => ?_)
    refine lv_istore (lv' := [(4, .int (g_DC_valueAt 2 (g_DC_syndromeOf x1))), (3, .int (g_DC_valueAt 1 (g_DC_syndromeOf x1))), (2, .int (g_DC_syndromeOf x1)), (0, .long x1)]) hx hb d_DC_infoOf_29 hl (by decide) rfl (fun ls hl => ?_)
    refine lv_iconst (v := 3) hx hb d_DC_infoOf_31 (by decide) ?_
    refine lv_iload_n hx hb d_DC_infoOf_32 rfl (lv_at hl 2 rfl) ?_
    refine fl_calli (va_runS (As := [.int 3, .int (g_DC_syndromeOf x1)]) (rest := []) ⟨hx, hb, hml, hown, hts⟩ (c_DC_valueAt l hi M 3 (g_DC_syndromeOf x1) (⟨3, by decide, rfl⟩)) (kv_DC_valueAt hts (hts _ (List.mem_cons_of_mem _ tw_418)) ⟨Nat.le_of_ble_eq_true rfl, Nat.le_of_ble_eq_true rfl⟩) (fl_preS hK hSt hN hS hP) rfl rfl hl.1 rfl (lv_room (Nat.le_of_ble_eq_true rfl)) d_DC_infoOf_33 ⟨Nat.zero_le _, Nat.zero_le _⟩) hS (fun H locs hP hS => ?_)
    refine lv_istore (lv' := [(5, .int (g_DC_valueAt 3 (g_DC_syndromeOf x1))), (4, .int (g_DC_valueAt 2 (g_DC_syndromeOf x1))), (3, .int (g_DC_valueAt 1 (g_DC_syndromeOf x1))), (2, .int (g_DC_syndromeOf x1)), (0, .long x1)]) hx hb d_DC_infoOf_36 hl (by decide) rfl (fun ls hl => ?_)
    refine lv_iconst (v := 4) hx hb d_DC_infoOf_38 (by decide) ?_
    refine lv_iload_n hx hb d_DC_infoOf_39 rfl (lv_at hl 3 rfl) ?_
    refine fl_calli (va_runS (As := [.int 4, .int (g_DC_syndromeOf x1)]) (rest := []) ⟨hx, hb, hml, hown, hts⟩ (c_DC_valueAt l hi M 4 (g_DC_syndromeOf x1) (⟨4, by decide, rfl⟩)) (kv_DC_valueAt hts (hts _ (List.mem_cons_of_mem _ tw_418)) ⟨Nat.le_of_ble_eq_true rfl, Nat.le_of_ble_eq_true rfl⟩) (fl_preS hK hSt hN hS hP) rfl rfl hl.1 rfl (lv_room (Nat.le_of_ble_eq_true rfl)) d_DC_infoOf_40 ⟨Nat.zero_le _, Nat.zero_le _⟩) hS (fun H locs hP hS => ?_)
    refine lv_istore (lv' := [(6, .int (g_DC_valueAt 4 (g_DC_syndromeOf x1))), (5, .int (g_DC_valueAt 3 (g_DC_syndromeOf x1))), (4, .int (g_DC_valueAt 2 (g_DC_syndromeOf x1))), (3, .int (g_DC_valueAt 1 (g_DC_syndromeOf x1))), (2, .int (g_DC_syndromeOf x1)), (0, .long x1)]) hx hb d_DC_infoOf_43 hl (by decide) rfl (fun ls hl => ?_)
    refine lv_iload_n hx hb d_DC_infoOf_45 rfl (lv_at hl 3 rfl) ?_
    refine lv_iload hx hb d_DC_infoOf_46 (lv_at hl 1 rfl) ?_
    refine fl_calli (va_runS (As := [.int (g_DC_valueAt 1 (g_DC_syndromeOf x1)), .int (g_DC_valueAt 3 (g_DC_syndromeOf x1))]) (rest := []) ⟨hx, hb, hml, hown, hts⟩ (c_DC_times l hi M (g_DC_valueAt 1 (g_DC_syndromeOf x1)) (g_DC_valueAt 3 (g_DC_syndromeOf x1))) (kv_DC_times hts (hts _ (List.mem_cons_of_mem _ tw_424)) ⟨Nat.le_of_ble_eq_true rfl, Nat.le_of_ble_eq_true rfl⟩) (fl_preS hK hSt hN hS hP) rfl rfl hl.1 rfl (lv_room (Nat.le_of_ble_eq_true rfl)) d_DC_infoOf_48 ⟨Nat.zero_le _, Nat.zero_le _⟩) hS (fun H locs hP hS => ?_)
    refine lv_iload hx hb d_DC_infoOf_51 (lv_at hl 2 rfl) ?_
    refine lv_iload hx hb d_DC_infoOf_53 (lv_at hl 2 rfl) ?_
    refine fl_calli (va_runS (As := [.int (g_DC_valueAt 2 (g_DC_syndromeOf x1)), .int (g_DC_valueAt 2 (g_DC_syndromeOf x1))]) (rest := [.int (g_DC_times (g_DC_valueAt 1 (g_DC_syndromeOf x1)) (g_DC_valueAt 3 (g_DC_syndromeOf x1)))]) ⟨hx, hb, hml, hown, hts⟩ (c_DC_times l hi M (g_DC_valueAt 2 (g_DC_syndromeOf x1)) (g_DC_valueAt 2 (g_DC_syndromeOf x1))) (kv_DC_times hts (hts _ (List.mem_cons_of_mem _ tw_424)) ⟨Nat.le_of_ble_eq_true rfl, Nat.le_of_ble_eq_true rfl⟩) (fl_preS hK hSt hN hS hP) rfl rfl hl.1 rfl (lv_room (Nat.le_of_ble_eq_true rfl)) d_DC_infoOf_55 ⟨Nat.zero_le _, Nat.zero_le _⟩) hS (fun H locs hP hS => ?_)
    refine lv_ixor hx hb d_DC_infoOf_58 ?_
    refine lv_istore (lv' := [(7, .int ((g_DC_times (g_DC_valueAt 1 (g_DC_syndromeOf x1)) (g_DC_valueAt 3 (g_DC_syndromeOf x1))) ^^^ (g_DC_times (g_DC_valueAt 2 (g_DC_syndromeOf x1)) (g_DC_valueAt 2 (g_DC_syndromeOf x1))))), (6, .int (g_DC_valueAt 4 (g_DC_syndromeOf x1))), (5, .int (g_DC_valueAt 3 (g_DC_syndromeOf x1))), (4, .int (g_DC_valueAt 2 (g_DC_syndromeOf x1))), (3, .int (g_DC_valueAt 1 (g_DC_syndromeOf x1))), (2, .int (g_DC_syndromeOf x1)), (0, .long x1)]) hx hb d_DC_infoOf_59 hl (by decide) rfl (fun ls hl => ?_)
    refine lv_iload hx hb d_DC_infoOf_61 (lv_at hl 0 rfl) ?_
    refine lv_if_ne (tgt := 77) hx hb d_DC_infoOf_63 (by decide) (fun h_2 => ?_) (fun h_2 => ?_)
    ·
      have hG := hG.trans (if_neg h_2)
      refine lv_iload_n hx hb d_DC_infoOf_77 rfl (lv_at hl 4 rfl) ?_
      refine lv_iload hx hb d_DC_infoOf_78 (lv_at hl 3 rfl) ?_
      refine lv_iload hx hb d_DC_infoOf_80 (lv_at hl 2 rfl) ?_
      refine lv_iload hx hb d_DC_infoOf_82 (lv_at hl 1 rfl) ?_
      refine lv_iload hx hb d_DC_infoOf_84 (lv_at hl 0 rfl) ?_
      refine fl_calll (va_runS (As := [.int (g_DC_valueAt 1 (g_DC_syndromeOf x1)), .int (g_DC_valueAt 2 (g_DC_syndromeOf x1)), .int (g_DC_valueAt 3 (g_DC_syndromeOf x1)), .int (g_DC_valueAt 4 (g_DC_syndromeOf x1)), .int ((g_DC_times (g_DC_valueAt 1 (g_DC_syndromeOf x1)) (g_DC_valueAt 3 (g_DC_syndromeOf x1))) ^^^ (g_DC_times (g_DC_valueAt 2 (g_DC_syndromeOf x1)) (g_DC_valueAt 2 (g_DC_syndromeOf x1))))]) (rest := []) ⟨hx, hb, hml, hown, hts⟩ (c_DC_twoErrors l hi M (g_DC_valueAt 1 (g_DC_syndromeOf x1)) (g_DC_valueAt 2 (g_DC_syndromeOf x1)) (g_DC_valueAt 3 (g_DC_syndromeOf x1)) (g_DC_valueAt 4 (g_DC_syndromeOf x1)) ((g_DC_times (g_DC_valueAt 1 (g_DC_syndromeOf x1)) (g_DC_valueAt 3 (g_DC_syndromeOf x1))) ^^^ (g_DC_times (g_DC_valueAt 2 (g_DC_syndromeOf x1)) (g_DC_valueAt 2 (g_DC_syndromeOf x1))))) (kv_DC_twoErrors hts (hts _ (List.mem_cons_of_mem _ tw_439)) ⟨Nat.le_of_ble_eq_true rfl, Nat.le_of_ble_eq_true rfl⟩) (fl_preS hK hSt hN hS hP) rfl rfl hl.1 rfl (lv_room (Nat.le_of_ble_eq_true rfl)) d_DC_infoOf_86 ⟨Nat.zero_le _, Nat.zero_le _⟩) hS (fun H locs hP hS => ?_)
      refine lv_lstore (lv' := [(8, .long (g_DC_twoErrors (g_DC_valueAt 1 (g_DC_syndromeOf x1)) (g_DC_valueAt 2 (g_DC_syndromeOf x1)) (g_DC_valueAt 3 (g_DC_syndromeOf x1)) (g_DC_valueAt 4 (g_DC_syndromeOf x1)) ((g_DC_times (g_DC_valueAt 1 (g_DC_syndromeOf x1)) (g_DC_valueAt 3 (g_DC_syndromeOf x1))) ^^^ (g_DC_times (g_DC_valueAt 2 (g_DC_syndromeOf x1)) (g_DC_valueAt 2 (g_DC_syndromeOf x1)))))), (7, .int ((g_DC_times (g_DC_valueAt 1 (g_DC_syndromeOf x1)) (g_DC_valueAt 3 (g_DC_syndromeOf x1))) ^^^ (g_DC_times (g_DC_valueAt 2 (g_DC_syndromeOf x1)) (g_DC_valueAt 2 (g_DC_syndromeOf x1))))), (6, .int (g_DC_valueAt 4 (g_DC_syndromeOf x1))), (5, .int (g_DC_valueAt 3 (g_DC_syndromeOf x1))), (4, .int (g_DC_valueAt 2 (g_DC_syndromeOf x1))), (3, .int (g_DC_valueAt 1 (g_DC_syndromeOf x1))), (2, .int (g_DC_syndromeOf x1)), (0, .long x1)]) hx hb d_DC_infoOf_89 hl (by decide) rfl (fun ls hl => ?_)
      refine lv_lload hx hb d_DC_infoOf_91 (lv_at hl 0 rfl) ?_
      refine lv_ldc2 (v := -1) hx hb hown (hts _ (List.mem_cons_of_mem _ tw_435)) d_DC_infoOf_93 ?_
      refine W.lcmp hx hb d_DC_infoOf_96 ?_
      refine lv_if_ne (tgt := 106) hx hb d_DC_infoOf_97 (by decide) (fun h_3 => ?_) (fun h_3 => ?_)
      ·
        have hG := hG.trans (if_neg h_3)
        refine lv_lload_n hx hb d_DC_infoOf_106 rfl (lv_at hl 7 rfl) ?_
        refine lv_lload hx hb d_DC_infoOf_107 (lv_at hl 0 rfl) ?_
        refine lv_lxor hx hb d_DC_infoOf_109 ?_
        refine lv_bipush (v := 16) hx hb d_DC_infoOf_110 (by decide) ?_
        refine lv_lushr (v := j_lushr (x1 ^^^ (g_DC_twoErrors (g_DC_valueAt 1 (g_DC_syndromeOf x1)) (g_DC_valueAt 2 (g_DC_syndromeOf x1)) (g_DC_valueAt 3 (g_DC_syndromeOf x1)) (g_DC_valueAt 4 (g_DC_syndromeOf x1)) ((g_DC_times (g_DC_valueAt 1 (g_DC_syndromeOf x1)) (g_DC_valueAt 3 (g_DC_syndromeOf x1))) ^^^ (g_DC_times (g_DC_valueAt 2 (g_DC_syndromeOf x1)) (g_DC_valueAt 2 (g_DC_syndromeOf x1)))))) 16) hx hb d_DC_infoOf_112 rfl ?_
        refine lv_ldc2 (v := 17592186044415) hx hb hown (hts _ (List.mem_cons_of_mem _ tw_417)) d_DC_infoOf_113 ?_
        refine lv_land hx hb d_DC_infoOf_116 ?_
        exact fl_lret hx hb hr hlocks hP hS hG.symm rfl d_DC_infoOf_117
      ·
        have hG := hG.trans (if_pos h_3)
        refine lv_ldc2 (v := -1) hx hb hown (hts _ (List.mem_cons_of_mem _ tw_435)) d_DC_infoOf_100 ?_
        refine lv_goto (tgt := 117) hx hb d_DC_infoOf_103 (by decide) ?_
        exact fl_lret hx hb hr hlocks hP hS hG.symm rfl d_DC_infoOf_117
    ·
      have hG := hG.trans (if_pos h_2)
      refine lv_iload_n hx hb d_DC_infoOf_66 rfl (lv_at hl 4 rfl) ?_
      refine lv_iload hx hb d_DC_infoOf_67 (lv_at hl 3 rfl) ?_
      refine lv_iload hx hb d_DC_infoOf_69 (lv_at hl 1 rfl) ?_
      refine fl_calll (va_runS (As := [.int (g_DC_valueAt 1 (g_DC_syndromeOf x1)), .int (g_DC_valueAt 2 (g_DC_syndromeOf x1)), .int (g_DC_valueAt 4 (g_DC_syndromeOf x1))]) (rest := []) ⟨hx, hb, hml, hown, hts⟩ (c_DC_oneError l hi M (g_DC_valueAt 1 (g_DC_syndromeOf x1)) (g_DC_valueAt 2 (g_DC_syndromeOf x1)) (g_DC_valueAt 4 (g_DC_syndromeOf x1))) (kv_DC_oneError hts (hts _ (List.mem_cons_of_mem _ tw_429)) ⟨Nat.le_of_ble_eq_true rfl, Nat.le_of_ble_eq_true rfl⟩) (fl_preS hK hSt hN hS hP) rfl rfl hl.1 rfl (lv_room (Nat.le_of_ble_eq_true rfl)) d_DC_infoOf_71 ⟨Nat.zero_le _, Nat.zero_le _⟩) hS (fun H locs hP hS => ?_)
      refine lv_goto (tgt := 89) hx hb d_DC_infoOf_74 (by decide) ?_
      refine lv_lstore (lv' := [(8, .long (g_DC_oneError (g_DC_valueAt 1 (g_DC_syndromeOf x1)) (g_DC_valueAt 2 (g_DC_syndromeOf x1)) (g_DC_valueAt 4 (g_DC_syndromeOf x1)))), (7, .int ((g_DC_times (g_DC_valueAt 1 (g_DC_syndromeOf x1)) (g_DC_valueAt 3 (g_DC_syndromeOf x1))) ^^^ (g_DC_times (g_DC_valueAt 2 (g_DC_syndromeOf x1)) (g_DC_valueAt 2 (g_DC_syndromeOf x1))))), (6, .int (g_DC_valueAt 4 (g_DC_syndromeOf x1))), (5, .int (g_DC_valueAt 3 (g_DC_syndromeOf x1))), (4, .int (g_DC_valueAt 2 (g_DC_syndromeOf x1))), (3, .int (g_DC_valueAt 1 (g_DC_syndromeOf x1))), (2, .int (g_DC_syndromeOf x1)), (0, .long x1)]) hx hb d_DC_infoOf_89 hl (by decide) rfl (fun ls hl => ?_)
      refine lv_lload hx hb d_DC_infoOf_91 (lv_at hl 0 rfl) ?_
      refine lv_ldc2 (v := -1) hx hb hown (hts _ (List.mem_cons_of_mem _ tw_435)) d_DC_infoOf_93 ?_
      refine W.lcmp hx hb d_DC_infoOf_96 ?_
      refine lv_if_ne (tgt := 106) hx hb d_DC_infoOf_97 (by decide) (fun h_4 => ?_) (fun h_4 => ?_)
      ·
        have hG := hG.trans (if_neg h_4)
        refine lv_lload_n hx hb d_DC_infoOf_106 rfl (lv_at hl 7 rfl) ?_
        refine lv_lload hx hb d_DC_infoOf_107 (lv_at hl 0 rfl) ?_
        refine lv_lxor hx hb d_DC_infoOf_109 ?_
        refine lv_bipush (v := 16) hx hb d_DC_infoOf_110 (by decide) ?_
        refine lv_lushr (v := j_lushr (x1 ^^^ (g_DC_oneError (g_DC_valueAt 1 (g_DC_syndromeOf x1)) (g_DC_valueAt 2 (g_DC_syndromeOf x1)) (g_DC_valueAt 4 (g_DC_syndromeOf x1)))) 16) hx hb d_DC_infoOf_112 rfl ?_
        refine lv_ldc2 (v := 17592186044415) hx hb hown (hts _ (List.mem_cons_of_mem _ tw_417)) d_DC_infoOf_113 ?_
        refine lv_land hx hb d_DC_infoOf_116 ?_
        exact fl_lret hx hb hr hlocks hP hS hG.symm rfl d_DC_infoOf_117
      ·
        have hG := hG.trans (if_pos h_4)
        refine lv_ldc2 (v := -1) hx hb hown (hts _ (List.mem_cons_of_mem _ tw_435)) d_DC_infoOf_100 ?_
        refine lv_goto (tgt := 117) hx hb d_DC_infoOf_103 (by decide) ?_
        exact fl_lret hx hb hr hlocks hP hS hG.symm rfl d_DC_infoOf_117
  ·
    have hG := hG.trans (if_pos h_1)
    refine lv_lload_n hx hb d_DC_infoOf_9 rfl (lv_at hl 1 rfl) ?_
    refine lv_bipush (v := 16) hx hb d_DC_infoOf_10 (by decide) ?_
    refine lv_lushr (v := j_lushr x1 16) hx hb d_DC_infoOf_12 rfl ?_
    refine lv_ldc2 (v := 17592186044415) hx hb hown (hts _ (List.mem_cons_of_mem _ tw_417)) d_DC_infoOf_13 ?_
    refine lv_land hx hb d_DC_infoOf_16 ?_
    exact fl_lret hx hb hr hlocks hP hS hG.symm rfl d_DC_infoOf_17
theorem hd_DC_infoOf : y_DC_infoOf.cls ≠ "java/lang/invoke/MethodHandle" ∧ y_DC_infoOf.cls ≠ "java/lang/invoke/VarHandle" ∧ (parseMethodDescriptor y_DC_infoOf.desc).map (fun d => d.parameters.length) = some 1 := by decide +kernel
theorem kv_DC_infoOf {R : Room} {s : State} {args : Array Value} {c0 : Cond} {own : String} {index : Nat} (hts : ∀ w ∈ c0 :: gw, w.before args s = true) (hl : (Cond.methodLink own index y_DC_infoOf).before args s = true) (hR : 3 + 1 ≤ R.frames ∧ 8 + (10 + 11) + 73 ≤ R.locals) : CallB R s args own index y_DC_infoOf b_DC_infoOf 10 (some .long) w_DC_infoOf ({ frames := 3, cells := 0, slots := 0, locals := 73 } : Room) 0 0 1 ∧ (Cond.static y_DC_infoOf).before args s = true := ⟨callB_of 1 hts (gw_in tw_409) rfl rfl rfl (hts _ (List.mem_cons_of_mem _ tw_14)) hl hd_DC_infoOf hR, hts _ (List.mem_cons_of_mem _ tw_408)⟩
