/-! contracts of the reference: 32.ysys -/
def g_MD_outside (x1 : Int32) (x2 : Int32) : Int32 :=
  if x1 < 0 then (1) else (if x1 ≤ x2 then (0) else (1))
set_option maxHeartbeats 400000 in
set_option maxRecDepth 100000 in
theorem c_MD_outside (l : Launch) {D : va_G} {ad : Nat → Nat} {cA : Nat → ClassId} (hi : fl_inj ad 41) (M : fl_M) (x1 : Int32) (x2 : Int32) : Met l y_MD_outside w_MD_outside ({ frames := 0, cells := 0, slots := 0, locals := 0 } : Room) (va_Pc [.int x1, .int x2] (fl_B D cls (yt cA) ([] : fl_L) ([] : fl_FN) ([] : fl_MN) ad (yc ad cA) 41 M)) (va_Qi (fun r M' => r = (g_MD_outside x1 x2) ∧ M' = M) (fl_E D cls ad (yc ad cA) 41) (fl_A ad 41)) 0 0 (fl_A ad 41) := by
  refine Met.ofW (cc := b_MD_outside) (maxL := 2) (ret := (some .boolean)) (by decide) rfl ?_
  intro p e s m args below meth c s₁ B hml hv
  obtain ⟨rfl, hP, hK, hSt, hN⟩ := hv
  have hx := B.exec
  have hb := B.bytes
  have hr := B.returns
  have hts := atoms_spec (ws := w_MD_outside) B.pre
  have hown : s.vm.findClass "FarLinkModel" = some m.cls := findClass_of_methodNamed B.named
  have hlocks := B.notSynchronized
  have hS : va_S (fl_A ad 41) s.heap s.heap [] := va_S.rf
  have hl := lv_entry ([.int x1, .int x2]) (n := 2) (Nat.le_of_ble_eq_true rfl)
  rw [lg_entry_eq]
  generalize (lg_sl ([.int x1, .int x2]) ++ List.replicate (2 - (lg_sl ([.int x1, .int x2])).length) Slot.unset).toArray = ls at hl ⊢
  have hl : lv_has ls 2 [(0, .int x1), (1, .int x2)] := hl
  have hG := g_MD_outside.eq_1 x1 x2
  refine lv_iload_n hx hb d_MD_outside_0 rfl (lv_at hl 0 rfl) ?_
  refine lv_if_lt (tgt := 9) hx hb d_MD_outside_1 (by decide) (fun h_1 => ?_) (fun h_1 => ?_)
  ·
    have hG := hG.trans (if_pos h_1)
    refine lv_iconst (v := 1) hx hb d_MD_outside_9 (by decide) ?_
    refine lv_goto (tgt := 14) hx hb d_MD_outside_10 (by decide) ?_
    exact fl_zret hx hb hr hlocks hP hS (rfl) hG.symm rfl d_MD_outside_14
  ·
    have hG := hG.trans (if_neg h_1)
    refine lv_iload_n hx hb d_MD_outside_4 rfl (lv_at hl 0 rfl) ?_
    refine lv_iload_n hx hb d_MD_outside_5 rfl (lv_at hl 1 rfl) ?_
    refine lv_icmp_le (tgt := 13) hx hb d_MD_outside_6 (by decide) (fun h_2 => ?_) (fun h_2 => ?_)
    ·
      have hG := hG.trans (if_pos h_2)
      refine lv_iconst (v := 0) hx hb d_MD_outside_13 (by decide) ?_
      exact fl_zret hx hb hr hlocks hP hS (rfl) hG.symm rfl d_MD_outside_14
    ·
      have hG := hG.trans (if_neg h_2)
      refine lv_iconst (v := 1) hx hb d_MD_outside_9 (by decide) ?_
      refine lv_goto (tgt := 14) hx hb d_MD_outside_10 (by decide) ?_
      exact fl_zret hx hb hr hlocks hP hS (rfl) hG.symm rfl d_MD_outside_14
theorem z_MD_outside (x1 : Int32) (x2 : Int32) : g_MD_outside x1 x2 &&& 1 = g_MD_outside x1 x2 := by
  unfold g_MD_outside
  repeat (first | split | (show (0 : Int32) &&& 1 = 0; rfl) | (show (1 : Int32) &&& 1 = 1; rfl) | rfl)
theorem hd_MD_outside : y_MD_outside.cls ≠ "java/lang/invoke/MethodHandle" ∧ y_MD_outside.cls ≠ "java/lang/invoke/VarHandle" ∧ (parseMethodDescriptor y_MD_outside.desc).map (fun d => d.parameters.length) = some 2 := by decide +kernel
theorem kv_MD_outside {R : Room} {s : State} {args : Array Value} {c0 : Cond} {own : String} {index : Nat} (hts : ∀ w ∈ c0 :: gw, w.before args s = true) (hl : (Cond.methodLink own index y_MD_outside).before args s = true) (hR : 0 + 1 ≤ R.frames ∧ 8 + (2 + 11) + 0 ≤ R.locals) : CallB R s args own index y_MD_outside b_MD_outside 2 (some .boolean) w_MD_outside ({ frames := 0, cells := 0, slots := 0, locals := 0 } : Room) 0 0 2 ∧ (Cond.static y_MD_outside).before args s = true := ⟨callB_of 2 hts (gw_in tw_992) rfl rfl rfl (hts _ (List.mem_cons_of_mem _ tw_10)) hl hd_MD_outside hR, hts _ (List.mem_cons_of_mem _ tw_991)⟩
theorem in_mul {x y : Int32} (hx : vp_in x 16) (hy : vp_in y 16) : vp_in (16 * x + y) 256 := by
  obtain ⟨i, hi, rfl⟩ := vp_in_of hx (by decide)
  obtain ⟨j, hj, rfl⟩ := vp_in_of hy (by decide)
  rw [show (16 : Int32) * nI i + nI j = nI (16 * i + j) from by rw [show (16 : Int32) = nI 16 from rfl, pk_mul, nI_add]]
  exact vp_in_nI (by omega) (by decide)
theorem in_mul4 {x y : Int32} (hx : vp_in x 4) (hy : vp_in y 16) : vp_in (16 * x + y) 64 := by
  obtain ⟨i, hi, rfl⟩ := vp_in_of hx (by decide)
  obtain ⟨j, hj, rfl⟩ := vp_in_of hy (by decide)
  rw [show (16 : Int32) * nI i + nI j = nI (16 * i + j) from by rw [show (16 : Int32) = nI 16 from rfl, pk_mul, nI_add]]
  exact vp_in_nI (by omega) (by decide)
theorem in_way {x y : Int32} (hx : vp_in x 2) : vp_in (8 * x + (y &&& 7)) 16 := by
  obtain ⟨i, hi, rfl⟩ := vp_in_of hx (by decide)
  obtain ⟨j, hj, e⟩ := pk_andE y (m := 7) 3 rfl
  rw [e, show (8 : Int32) * nI i + nI j = nI (8 * i + j) from by rw [show (8 : Int32) = nI 8 from rfl, pk_mul, nI_add]]
  exact vp_in_nI (by omega) (by decide)
theorem land_k (x : Int64) (k : Nat) (hk : k < 63) {m : Int64} (hm : m = lN (2 ^ k - 1)) : ∃ j : Nat, j < 2 ^ k ∧ x &&& m = lN j := by
  refine ⟨x.toBitVec.toNat % 2 ^ k, Nat.mod_lt _ (Nat.two_pow_pos k), ?_⟩
  have h2 : 2 ^ k < 2 ^ 64 := Nat.pow_lt_pow_right (by decide) (by omega)
  apply Int64.toBitVec_inj.mp
  rw [hm, Int64.toBitVec_and]
  apply BitVec.eq_of_toNat_eq
  rw [BitVec.toNat_and]
  show x.toBitVec.toNat &&& (BitVec.ofNat 64 (2 ^ k - 1)).toNat = (BitVec.ofNat 64 (x.toBitVec.toNat % 2 ^ k)).toNat
  have h3 : x.toBitVec.toNat % 2 ^ k < 2 ^ k := Nat.mod_lt _ (Nat.two_pow_pos k)
  rw [BitVec.toNat_ofNat, BitVec.toNat_ofNat, Nat.mod_eq_of_lt (by omega), Nat.mod_eq_of_lt (a := x.toBitVec.toNat % 2 ^ k) (by omega), Nat.and_two_pow_sub_one_eq_mod]
theorem in_land (x : Int64) : vp_in (x &&& 15).toInt32 16 := by
  obtain ⟨j, hj, e⟩ := land_k x 4 (by decide) (m := 15) rfl
  rw [e, lN_i]
  exact vp_in_nI hj (by decide)
theorem nn_land (x : Int64) : ¬ (x &&& 255).toInt32 < 0 := by
  obtain ⟨j, hj, e⟩ := land_k x 8 (by decide) (m := 255) rfl
  rw [e, lN_i]
  exact nI_pos (by omega)
theorem out_vp {x b : Int32} {n : Nat} (hb : b = nI n) (hn : n < 2 ^ 30) (h : g_MD_outside x b = 0) : vp_in x (n + 1) := by
  unfold g_MD_outside at h
  by_cases h1 : x < 0
  · rw [if_pos h1] at h; exact absurd h (by decide)
  · rw [if_neg h1] at h
    by_cases h2 : x ≤ b
    · obtain ⟨j, hj, rfl⟩ := nI_of h1
      rw [hb] at h2
      have h3 := (nI_leI hj (by omega)).mp h2
      exact vp_in_nI (by omega) (by omega)
    · rw [if_neg h2] at h; exact absurd h (by decide)
def g_MD_finish (M : fl_M) (x1 : Int32) (x2 : Int32) : fl_M :=
  (fl_i (fl_i (fl_i (fl_i (fl_i (fl_i M 25 x1.toNatClampNeg 2) 26 x1.toNatClampNeg x2) 38 x1.toNatClampNeg 1) 37 x1.toNatClampNeg 0) 34 x1.toNatClampNeg (3 * (M.1 0 1))) 33 x1.toNatClampNeg 1)
set_option maxHeartbeats 400000 in
set_option maxRecDepth 100000 in
theorem c_MD_finish (l : Launch) {D : va_G} {ad : Nat → Nat} {cA : Nat → ClassId} (hi : fl_inj ad 41) (M : fl_M) (x1 : Int32) (x2 : Int32) (ht : vp_in x1 16) : Met l y_MD_finish w_MD_finish ({ frames := 0, cells := 0, slots := 0, locals := 0 } : Room) (va_Pc [.ref (ad 0), .int x1, .int x2] (fl_B D cls (yt cA) ([] : fl_L) ([] : fl_FN) ([] : fl_MN) ad (yc ad cA) 41 M)) (va_Qv (fun M' => M' = (g_MD_finish M x1 x2)) (fl_E D cls ad (yc ad cA) 41) (fl_A ad 41)) 0 0 (fl_A ad 41) := by
  refine Met.ofW (cc := b_MD_finish) (maxL := 3) (ret := none) (by decide) rfl ?_
  intro p e s m args below meth c s₁ B hml hv
  obtain ⟨rfl, hP, hK, hSt, hN⟩ := hv
  have hx := B.exec
  have hb := B.bytes
  have hr := B.returns
  have hts := atoms_spec (ws := w_MD_finish) B.pre
  have hown : s.vm.findClass "FarLinkModel" = some m.cls := findClass_of_methodNamed B.named
  have hlocks := B.notSynchronized
  have hS : va_S (fl_A ad 41) s.heap s.heap [] := va_S.rf
  have hl := lv_entry ([.ref (ad 0), .int x1, .int x2]) (n := 3) (Nat.le_of_ble_eq_true rfl)
  rw [lg_entry_eq]
  generalize (lg_sl ([.ref (ad 0), .int x1, .int x2]) ++ List.replicate (3 - (lg_sl ([.ref (ad 0), .int x1, .int x2])).length) Slot.unset).toArray = ls at hl ⊢
  have hl : lv_has ls 3 [(0, .ref (ad 0)), (1, .int x1), (2, .int x2)] := hl
  have hG := g_MD_finish.eq_1 M x1 x2
  refine lv_aload_n hx hb d_MD_finish_0 rfl (lv_at hl 0 rfl) ?_
  refine gg_MD (k := 41) (v := .ref (ad 25)) hx hb hts hown hK hP  (hts _ (List.mem_cons_of_mem _ tw_822)) (by decide) rfl rfl d_MD_finish_1 ?_
  refine lv_iload_n hx hb d_MD_finish_4 rfl (lv_at hl 1 rfl) ?_
  refine lv_iconst (v := 2) hx hb d_MD_finish_5 (by decide) ?_
  refine sg_Astage hx hb hK hi hP hS  (by assumption) d_MD_finish_6 (fun H locs hP hS => ?_)
  refine lv_aload_n hx hb d_MD_finish_7 rfl (lv_at hl 0 rfl) ?_
  refine gg_MD (k := 42) (v := .ref (ad 26)) hx hb hts hown hK hP  (hts _ (List.mem_cons_of_mem _ tw_823)) (by decide) rfl rfl d_MD_finish_8 ?_
  refine lv_iload_n hx hb d_MD_finish_11 rfl (lv_at hl 1 rfl) ?_
  refine lv_iload_n hx hb d_MD_finish_12 rfl (lv_at hl 2 rfl) ?_
  refine sg_Acondition hx hb hK hi hP hS  (by assumption) d_MD_finish_13 (fun H locs hP hS => ?_)
  refine lv_aload_n hx hb d_MD_finish_14 rfl (lv_at hl 0 rfl) ?_
  refine gg_MD (k := 54) (v := .ref (ad 38)) hx hb hts hown hK hP  (hts _ (List.mem_cons_of_mem _ tw_835)) (by decide) rfl rfl d_MD_finish_15 ?_
  refine lv_iload_n hx hb d_MD_finish_18 rfl (lv_at hl 1 rfl) ?_
  refine lv_iconst (v := 1) hx hb d_MD_finish_19 (by decide) ?_
  refine sg_AoweFinished hx hb hK hi hP hS  (rfl) (by assumption) d_MD_finish_20 (fun H locs hP hS => ?_)
  refine lv_aload_n hx hb d_MD_finish_21 rfl (lv_at hl 0 rfl) ?_
  refine gg_MD (k := 53) (v := .ref (ad 37)) hx hb hts hown hK hP  (hts _ (List.mem_cons_of_mem _ tw_834)) (by decide) rfl rfl d_MD_finish_22 ?_
  refine lv_iload_n hx hb d_MD_finish_25 rfl (lv_at hl 1 rfl) ?_
  refine lv_iconst (v := 0) hx hb d_MD_finish_26 (by decide) ?_
  refine sg_AoweLack hx hb hK hi hP hS  (rfl) (by assumption) d_MD_finish_27 (fun H locs hP hS => ?_)
  refine lv_aload_n hx hb d_MD_finish_28 rfl (lv_at hl 0 rfl) ?_
  refine gg_MD (k := 50) (v := .ref (ad 34)) hx hb hts hown hK hP  (hts _ (List.mem_cons_of_mem _ tw_831)) (by decide) rfl rfl d_MD_finish_29 ?_
  refine lv_iload_n hx hb d_MD_finish_32 rfl (lv_at hl 1 rfl) ?_
  refine lv_iconst (v := 3) hx hb d_MD_finish_33 (by decide) ?_
  refine lv_aload_n hx hb d_MD_finish_34 rfl (lv_at hl 0 rfl) ?_
  refine gg_MD (k := 1) (v := .int (M.1 0 1)) hx hb hts hown hK hP  (hts _ (List.mem_cons_of_mem _ tw_782)) (by decide) rfl rfl d_MD_finish_35 ?_
  refine lv_imul hx hb d_MD_finish_38 ?_
  refine sg_AcraftClock hx hb hK hi hP hS  (by assumption) d_MD_finish_39 (fun H locs hP hS => ?_)
  refine lv_aload_n hx hb d_MD_finish_40 rfl (lv_at hl 0 rfl) ?_
  refine gg_MD (k := 49) (v := .ref (ad 33)) hx hb hts hown hK hP  (hts _ (List.mem_cons_of_mem _ tw_830)) (by decide) rfl rfl d_MD_finish_41 ?_
  refine lv_iload_n hx hb d_MD_finish_44 rfl (lv_at hl 1 rfl) ?_
  refine lv_iconst (v := 1) hx hb d_MD_finish_45 (by decide) ?_
  refine sg_AcraftTries hx hb hK hi hP hS  (by assumption) d_MD_finish_46 (fun H locs hP hS => ?_)
  exact fl_vret hx hb hr hlocks hP hS (by rw [hG]) d_MD_finish_47
theorem hd_MD_finish : y_MD_finish.cls ≠ "java/lang/invoke/MethodHandle" ∧ y_MD_finish.cls ≠ "java/lang/invoke/VarHandle" ∧ (parseMethodDescriptor y_MD_finish.desc).map (fun d => d.parameters.length) = some 2 := by decide +kernel
theorem kv_MD_finish {R : Room} {s : State} {args : Array Value} {c0 : Cond} {own : String} {index : Nat} (hts : ∀ w ∈ c0 :: gw, w.before args s = true) (hl : (Cond.methodLink own index y_MD_finish).before args s = true) (hR : 0 + 1 ≤ R.frames ∧ 8 + (3 + 11) + 0 ≤ R.locals) : CallW R s args own "FarLinkModel" index y_MD_finish b_MD_finish 3 none w_MD_finish ({ frames := 0, cells := 0, slots := 0, locals := 0 } : Room) 0 0 2 := ⟨callB_of 2 hts (gw_in tw_1048) rfl rfl rfl (hts _ (List.mem_cons_of_mem _ tw_10)) hl hd_MD_finish hR, hts _ (List.mem_cons_of_mem _ tw_1047), hts _ (List.mem_cons_of_mem _ ps_MD_finish)⟩
def g_MD_close (M : fl_M) (x1 : Int32) : fl_M :=
  (fl_i (fl_i (fl_i (fl_i M 25 x1.toNatClampNeg 3) 37 x1.toNatClampNeg 0) 38 x1.toNatClampNeg 0) 0 4 ((M.1 0 4) + 1))
set_option maxHeartbeats 400000 in
set_option maxRecDepth 100000 in
theorem c_MD_close (l : Launch) {D : va_G} {ad : Nat → Nat} {cA : Nat → ClassId} (hi : fl_inj ad 41) (M : fl_M) (x1 : Int32) (ht : vp_in x1 16) : Met l y_MD_close w_MD_close ({ frames := 0, cells := 0, slots := 0, locals := 0 } : Room) (va_Pc [.ref (ad 0), .int x1] (fl_B D cls (yt cA) ([] : fl_L) ([] : fl_FN) ([] : fl_MN) ad (yc ad cA) 41 M)) (va_Qv (fun M' => M' = (g_MD_close M x1)) (fl_E D cls ad (yc ad cA) 41) (fl_A ad 41)) 0 0 (fl_A ad 41) := by
  refine Met.ofW (cc := b_MD_close) (maxL := 2) (ret := none) (by decide) rfl ?_
  intro p e s m args below meth c s₁ B hml hv
  obtain ⟨rfl, hP, hK, hSt, hN⟩ := hv
  have hx := B.exec
  have hb := B.bytes
  have hr := B.returns
  have hts := atoms_spec (ws := w_MD_close) B.pre
  have hown : s.vm.findClass "FarLinkModel" = some m.cls := findClass_of_methodNamed B.named
  have hlocks := B.notSynchronized
  have hS : va_S (fl_A ad 41) s.heap s.heap [] := va_S.rf
  have hl := lv_entry ([.ref (ad 0), .int x1]) (n := 2) (Nat.le_of_ble_eq_true rfl)
  rw [lg_entry_eq]
  generalize (lg_sl ([.ref (ad 0), .int x1]) ++ List.replicate (2 - (lg_sl ([.ref (ad 0), .int x1])).length) Slot.unset).toArray = ls at hl ⊢
  have hl : lv_has ls 2 [(0, .ref (ad 0)), (1, .int x1)] := hl
  have hG := g_MD_close.eq_1 M x1
  refine lv_aload_n hx hb d_MD_close_0 rfl (lv_at hl 0 rfl) ?_
  refine gg_MD (k := 41) (v := .ref (ad 25)) hx hb hts hown hK hP  (hts _ (List.mem_cons_of_mem _ tw_822)) (by decide) rfl rfl d_MD_close_1 ?_
  refine lv_iload_n hx hb d_MD_close_4 rfl (lv_at hl 1 rfl) ?_
  refine lv_iconst (v := 3) hx hb d_MD_close_5 (by decide) ?_
  refine sg_Astage hx hb hK hi hP hS  (by assumption) d_MD_close_6 (fun H locs hP hS => ?_)
  refine lv_aload_n hx hb d_MD_close_7 rfl (lv_at hl 0 rfl) ?_
  refine gg_MD (k := 53) (v := .ref (ad 37)) hx hb hts hown hK hP  (hts _ (List.mem_cons_of_mem _ tw_834)) (by decide) rfl rfl d_MD_close_8 ?_
  refine lv_iload_n hx hb d_MD_close_11 rfl (lv_at hl 1 rfl) ?_
  refine lv_iconst (v := 0) hx hb d_MD_close_12 (by decide) ?_
  refine sg_AoweLack hx hb hK hi hP hS  (rfl) (by assumption) d_MD_close_13 (fun H locs hP hS => ?_)
  refine lv_aload_n hx hb d_MD_close_14 rfl (lv_at hl 0 rfl) ?_
  refine gg_MD (k := 54) (v := .ref (ad 38)) hx hb hts hown hK hP  (hts _ (List.mem_cons_of_mem _ tw_835)) (by decide) rfl rfl d_MD_close_15 ?_
  refine lv_iload_n hx hb d_MD_close_18 rfl (lv_at hl 1 rfl) ?_
  refine lv_iconst (v := 0) hx hb d_MD_close_19 (by decide) ?_
  refine sg_AoweFinished hx hb hK hi hP hS  (rfl) (by assumption) d_MD_close_20 (fun H locs hP hS => ?_)
  refine lv_aload_n hx hb d_MD_close_21 rfl (lv_at hl 0 rfl) ?_
  refine lv_dup hx hb d_MD_close_22 rfl ?_
  refine gg_MD (k := 4) (v := .int (M.1 0 4)) hx hb hts hown hK hP  (hts _ (List.mem_cons_of_mem _ tw_785)) (by decide) rfl rfl d_MD_close_23 ?_
  refine lv_iconst (v := 1) hx hb d_MD_close_26 (by decide) ?_
  refine lv_iadd hx hb d_MD_close_27 ?_
  refine pg_MD (k := 4) hx hb hts hown hK hi hP hS  (hts _ (List.mem_cons_of_mem _ tw_785)) (by decide) rfl rfl rfl rfl (Nat.le_of_ble_eq_true rfl) rfl d_MD_close_28 (fun H locs hP hS => ?_)
  exact fl_vret hx hb hr hlocks hP hS (by rw [hG]) d_MD_close_31
theorem hd_MD_close : y_MD_close.cls ≠ "java/lang/invoke/MethodHandle" ∧ y_MD_close.cls ≠ "java/lang/invoke/VarHandle" ∧ (parseMethodDescriptor y_MD_close.desc).map (fun d => d.parameters.length) = some 1 := by decide +kernel
theorem kv_MD_close {R : Room} {s : State} {args : Array Value} {c0 : Cond} {own : String} {index : Nat} (hts : ∀ w ∈ c0 :: gw, w.before args s = true) (hl : (Cond.methodLink own index y_MD_close).before args s = true) (hR : 0 + 1 ≤ R.frames ∧ 8 + (2 + 11) + 0 ≤ R.locals) : CallW R s args own "FarLinkModel" index y_MD_close b_MD_close 2 none w_MD_close ({ frames := 0, cells := 0, slots := 0, locals := 0 } : Room) 0 0 1 := ⟨callB_of 1 hts (gw_in tw_1064) rfl rfl rfl (hts _ (List.mem_cons_of_mem _ tw_10)) hl hd_MD_close hR, hts _ (List.mem_cons_of_mem _ tw_1063), hts _ (List.mem_cons_of_mem _ ps_MD_close)⟩
def g_MD_lacking (M : fl_M) (x1 : Int32) : Int32 :=
  (((1 <<< ((M.1 31 x1.toNatClampNeg) &&& 31)) - 1) ||| 65536) &&& ((M.1 27 x1.toNatClampNeg) ^^^ (-1))
set_option maxHeartbeats 400000 in
set_option maxRecDepth 100000 in
theorem c_MD_lacking (l : Launch) {D : va_G} {ad : Nat → Nat} {cA : Nat → ClassId} (hi : fl_inj ad 41) (M : fl_M) (x1 : Int32) (ht : vp_in x1 16) : Met l y_MD_lacking w_MD_lacking ({ frames := 0, cells := 0, slots := 0, locals := 0 } : Room) (va_Pc [.ref (ad 0), .int x1] (fl_B D cls (yt cA) ([] : fl_L) ([] : fl_FN) ([] : fl_MN) ad (yc ad cA) 41 M)) (va_Qi (fun r M' => r = (g_MD_lacking M x1) ∧ M' = M) (fl_E D cls ad (yc ad cA) 41) (fl_A ad 41)) 0 0 (fl_A ad 41) := by
  refine Met.ofW (cc := b_MD_lacking) (maxL := 3) (ret := (some .int)) (by decide) rfl ?_
  intro p e s m args below meth c s₁ B hml hv
  obtain ⟨rfl, hP, hK, hSt, hN⟩ := hv
  have hx := B.exec
  have hb := B.bytes
  have hr := B.returns
  have hts := atoms_spec (ws := w_MD_lacking) B.pre
  have hown : s.vm.findClass "FarLinkModel" = some m.cls := findClass_of_methodNamed B.named
  have hlocks := B.notSynchronized
  have hS : va_S (fl_A ad 41) s.heap s.heap [] := va_S.rf
  have hl := lv_entry ([.ref (ad 0), .int x1]) (n := 3) (Nat.le_of_ble_eq_true rfl)
  rw [lg_entry_eq]
  generalize (lg_sl ([.ref (ad 0), .int x1]) ++ List.replicate (3 - (lg_sl ([.ref (ad 0), .int x1])).length) Slot.unset).toArray = ls at hl ⊢
  have hl : lv_has ls 3 [(0, .ref (ad 0)), (1, .int x1)] := hl
  have hG := g_MD_lacking.eq_1 M x1
  refine lv_iconst (v := 1) hx hb d_MD_lacking_0 (by decide) ?_
  refine lv_aload_n hx hb d_MD_lacking_1 rfl (lv_at hl 0 rfl) ?_
  refine gg_MD (k := 47) (v := .ref (ad 31)) hx hb hts hown hK hP  (hts _ (List.mem_cons_of_mem _ tw_828)) (by decide) rfl rfl d_MD_lacking_2 ?_
  refine lv_iload_n hx hb d_MD_lacking_5 rfl (lv_at hl 1 rfl) ?_
  refine ag_AendLength (v := .int (M.1 31 x1.toNatClampNeg)) hx hb hK hP  (by assumption) rfl d_MD_lacking_6 ?_
  refine lv_ishl hx hb d_MD_lacking_7 ?_
  refine lv_iconst (v := 1) hx hb d_MD_lacking_8 (by decide) ?_
  refine lv_isub hx hb d_MD_lacking_9 ?_
  refine lv_ldcw (v := 65536) hx hb hown (hts _ (List.mem_cons_of_mem _ tw_997)) d_MD_lacking_10 ?_
  refine lv_ior hx hb d_MD_lacking_13 ?_
  refine lv_istore_n (lv' := [(2, .int (((1 <<< ((M.1 31 x1.toNatClampNeg) &&& 31)) - 1) ||| 65536)), (0, .ref (ad 0)), (1, .int x1)]) hx hb d_MD_lacking_14 rfl hl (by decide) rfl (fun ls hl => ?_)
  refine lv_iload_n hx hb d_MD_lacking_15 rfl (lv_at hl 0 rfl) ?_
  refine lv_aload_n hx hb d_MD_lacking_16 rfl (lv_at hl 1 rfl) ?_
  refine gg_MD (k := 43) (v := .ref (ad 27)) hx hb hts hown hK hP  (hts _ (List.mem_cons_of_mem _ tw_824)) (by decide) rfl rfl d_MD_lacking_17 ?_
  refine lv_iload_n hx hb d_MD_lacking_20 rfl (lv_at hl 2 rfl) ?_
  refine ag_Agot (v := .int (M.1 27 x1.toNatClampNeg)) hx hb hK hP  (by assumption) rfl d_MD_lacking_21 ?_
  refine lv_iconst (v := -1) hx hb d_MD_lacking_22 (by decide) ?_
  refine lv_ixor hx hb d_MD_lacking_23 ?_
  refine lv_iand hx hb d_MD_lacking_24 ?_
  exact fl_iret hx hb hr hlocks hP hS hG.symm rfl d_MD_lacking_25
theorem hd_MD_lacking : y_MD_lacking.cls ≠ "java/lang/invoke/MethodHandle" ∧ y_MD_lacking.cls ≠ "java/lang/invoke/VarHandle" ∧ (parseMethodDescriptor y_MD_lacking.desc).map (fun d => d.parameters.length) = some 1 := by decide +kernel
theorem kv_MD_lacking {R : Room} {s : State} {args : Array Value} {c0 : Cond} {own : String} {index : Nat} (hts : ∀ w ∈ c0 :: gw, w.before args s = true) (hl : (Cond.methodLink own index y_MD_lacking).before args s = true) (hR : 0 + 1 ≤ R.frames ∧ 8 + (3 + 11) + 0 ≤ R.locals) : CallW R s args own "FarLinkModel" index y_MD_lacking b_MD_lacking 3 (some .int) w_MD_lacking ({ frames := 0, cells := 0, slots := 0, locals := 0 } : Room) 0 0 1 := ⟨callB_of 1 hts (gw_in tw_1060) rfl rfl rfl (hts _ (List.mem_cons_of_mem _ tw_10)) hl hd_MD_lacking hR, hts _ (List.mem_cons_of_mem _ tw_1059), hts _ (List.mem_cons_of_mem _ ps_MD_lacking)⟩
def g_MD_alert (M : fl_M) (x1 : Int32) : fl_M :=
  (fl_i (fl_i (fl_i (fl_i (fl_i (fl_i (fl_i M 0 37 ((M.1 0 37) + 1)) 0 30 0) 0 28 x1) 0 33 1) 0 34 1) 0 35 0) 0 36 ((fl_i (fl_i (fl_i (fl_i (fl_i (fl_i M 0 37 ((M.1 0 37) + 1)) 0 30 0) 0 28 x1) 0 33 1) 0 34 1) 0 35 0).1 0 1))
set_option maxHeartbeats 400000 in
set_option maxRecDepth 100000 in
theorem c_MD_alert (l : Launch) {D : va_G} {ad : Nat → Nat} {cA : Nat → ClassId} (hi : fl_inj ad 41) (M : fl_M) (x1 : Int32) : Met l y_MD_alert w_MD_alert ({ frames := 0, cells := 0, slots := 0, locals := 0 } : Room) (va_Pc [.ref (ad 0), .int x1] (fl_B D cls (yt cA) ([] : fl_L) ([] : fl_FN) ([] : fl_MN) ad (yc ad cA) 41 M)) (va_Qv (fun M' => M' = (g_MD_alert M x1)) (fl_E D cls ad (yc ad cA) 41) (fl_A ad 41)) 0 0 (fl_A ad 41) := by
  refine Met.ofW (cc := b_MD_alert) (maxL := 2) (ret := none) (by decide) rfl ?_
  intro p e s m args below meth c s₁ B hml hv
  obtain ⟨rfl, hP, hK, hSt, hN⟩ := hv
  have hx := B.exec
  have hb := B.bytes
  have hr := B.returns
  have hts := atoms_spec (ws := w_MD_alert) B.pre
  have hown : s.vm.findClass "FarLinkModel" = some m.cls := findClass_of_methodNamed B.named
  have hlocks := B.notSynchronized
  have hS : va_S (fl_A ad 41) s.heap s.heap [] := va_S.rf
  have hl := lv_entry ([.ref (ad 0), .int x1]) (n := 2) (Nat.le_of_ble_eq_true rfl)
  rw [lg_entry_eq]
  generalize (lg_sl ([.ref (ad 0), .int x1]) ++ List.replicate (2 - (lg_sl ([.ref (ad 0), .int x1])).length) Slot.unset).toArray = ls at hl ⊢
  have hl : lv_has ls 2 [(0, .ref (ad 0)), (1, .int x1)] := hl
  have hG := g_MD_alert.eq_1 M x1
  refine lv_aload_n hx hb d_MD_alert_0 rfl (lv_at hl 0 rfl) ?_
  refine lv_dup hx hb d_MD_alert_1 rfl ?_
  refine gg_MD (k := 37) (v := .int (M.1 0 37)) hx hb hts hown hK hP  (hts _ (List.mem_cons_of_mem _ tw_818)) (by decide) rfl rfl d_MD_alert_2 ?_
  refine lv_iconst (v := 1) hx hb d_MD_alert_5 (by decide) ?_
  refine lv_iadd hx hb d_MD_alert_6 ?_
  refine pg_MD (k := 37) hx hb hts hown hK hi hP hS  (hts _ (List.mem_cons_of_mem _ tw_818)) (by decide) rfl rfl rfl rfl (Nat.le_of_ble_eq_true rfl) rfl d_MD_alert_7 (fun H locs hP hS => ?_)
  refine lv_aload_n hx hb d_MD_alert_10 rfl (lv_at hl 0 rfl) ?_
  refine lv_iconst (v := 0) hx hb d_MD_alert_11 (by decide) ?_
  refine pg_MD (k := 30) hx hb hts hown hK hi hP hS  (hts _ (List.mem_cons_of_mem _ tw_811)) (by decide) rfl rfl rfl rfl (Nat.le_of_ble_eq_true rfl) rfl d_MD_alert_12 (fun H locs hP hS => ?_)
  refine lv_aload_n hx hb d_MD_alert_15 rfl (lv_at hl 0 rfl) ?_
  refine lv_iload_n hx hb d_MD_alert_16 rfl (lv_at hl 1 rfl) ?_
  refine pg_MD (k := 28) hx hb hts hown hK hi hP hS  (hts _ (List.mem_cons_of_mem _ tw_809)) (by decide) rfl rfl rfl rfl (Nat.le_of_ble_eq_true rfl) rfl d_MD_alert_17 (fun H locs hP hS => ?_)
  refine lv_aload_n hx hb d_MD_alert_20 rfl (lv_at hl 0 rfl) ?_
  refine lv_iconst (v := 1) hx hb d_MD_alert_21 (by decide) ?_
  refine pg_MD (k := 33) hx hb hts hown hK hi hP hS  (hts _ (List.mem_cons_of_mem _ tw_814)) (by decide) rfl rfl (rfl) (rfl) (Nat.le_of_ble_eq_true rfl) rfl d_MD_alert_22 (fun H locs hP hS => ?_)
  refine lv_aload_n hx hb d_MD_alert_25 rfl (lv_at hl 0 rfl) ?_
  refine lv_iconst (v := 1) hx hb d_MD_alert_26 (by decide) ?_
  refine pg_MD (k := 34) hx hb hts hown hK hi hP hS  (hts _ (List.mem_cons_of_mem _ tw_815)) (by decide) rfl rfl rfl rfl (Nat.le_of_ble_eq_true rfl) rfl d_MD_alert_27 (fun H locs hP hS => ?_)
  refine lv_aload_n hx hb d_MD_alert_30 rfl (lv_at hl 0 rfl) ?_
  refine lv_iconst (v := 0) hx hb d_MD_alert_31 (by decide) ?_
  refine pg_MD (k := 35) hx hb hts hown hK hi hP hS  (hts _ (List.mem_cons_of_mem _ tw_816)) (by decide) rfl rfl (rfl) (rfl) (Nat.le_of_ble_eq_true rfl) rfl d_MD_alert_32 (fun H locs hP hS => ?_)
  refine lv_aload_n hx hb d_MD_alert_35 rfl (lv_at hl 0 rfl) ?_
  refine lv_aload_n hx hb d_MD_alert_36 rfl (lv_at hl 0 rfl) ?_
  refine gg_MD (k := 1) (v := .int ((fl_i (fl_i (fl_i (fl_i (fl_i (fl_i M 0 37 ((M.1 0 37) + 1)) 0 30 0) 0 28 x1) 0 33 1) 0 34 1) 0 35 0).1 0 1)) hx hb hts hown hK hP  (hts _ (List.mem_cons_of_mem _ tw_782)) (by decide) rfl rfl d_MD_alert_37 ?_
  refine pg_MD (k := 36) hx hb hts hown hK hi hP hS  (hts _ (List.mem_cons_of_mem _ tw_817)) (by decide) rfl rfl rfl rfl (Nat.le_of_ble_eq_true rfl) rfl d_MD_alert_40 (fun H locs hP hS => ?_)
  exact fl_vret hx hb hr hlocks hP hS (by rw [hG]) d_MD_alert_43
theorem hd_MD_alert : y_MD_alert.cls ≠ "java/lang/invoke/MethodHandle" ∧ y_MD_alert.cls ≠ "java/lang/invoke/VarHandle" ∧ (parseMethodDescriptor y_MD_alert.desc).map (fun d => d.parameters.length) = some 1 := by decide +kernel
theorem kv_MD_alert {R : Room} {s : State} {args : Array Value} {c0 : Cond} {own : String} {index : Nat} (hts : ∀ w ∈ c0 :: gw, w.before args s = true) (hl : (Cond.methodLink own index y_MD_alert).before args s = true) (hR : 0 + 1 ≤ R.frames ∧ 8 + (2 + 11) + 0 ≤ R.locals) : CallW R s args own "FarLinkModel" index y_MD_alert b_MD_alert 2 none w_MD_alert ({ frames := 0, cells := 0, slots := 0, locals := 0 } : Room) 0 0 1 := ⟨callB_of 1 hts (gw_in tw_1091) rfl rfl rfl (hts _ (List.mem_cons_of_mem _ tw_10)) hl hd_MD_alert hR, hts _ (List.mem_cons_of_mem _ tw_1090), hts _ (List.mem_cons_of_mem _ ps_MD_alert)⟩
def g_MD_end (M : fl_M) (x1 : Int32) (x2 : Int32) : fl_M :=
  (fl_i (fl_i (fl_i (fl_i (fl_i M 13 x1.toNatClampNeg 1) 14 x1.toNatClampNeg x2) 15 x1.toNatClampNeg ((M.1 15 x1.toNatClampNeg) &&& 262144)) 18 x1.toNatClampNeg 0) 0 4 ((M.1 0 4) + 1))
set_option maxHeartbeats 400000 in
set_option maxRecDepth 100000 in
theorem c_MD_end (l : Launch) {D : va_G} {ad : Nat → Nat} {cA : Nat → ClassId} (hi : fl_inj ad 41) (M : fl_M) (x1 : Int32) (x2 : Int32) (ht : vp_in x1 16) : Met l y_MD_end w_MD_end ({ frames := 0, cells := 0, slots := 0, locals := 0 } : Room) (va_Pc [.ref (ad 0), .int x1, .int x2] (fl_B D cls (yt cA) ([] : fl_L) ([] : fl_FN) ([] : fl_MN) ad (yc ad cA) 41 M)) (va_Qv (fun M' => M' = (g_MD_end M x1 x2)) (fl_E D cls ad (yc ad cA) 41) (fl_A ad 41)) 0 0 (fl_A ad 41) := by
  refine Met.ofW (cc := b_MD_end) (maxL := 3) (ret := none) (by decide) rfl ?_
  intro p e s m args below meth c s₁ B hml hv
  obtain ⟨rfl, hP, hK, hSt, hN⟩ := hv
  have hx := B.exec
  have hb := B.bytes
  have hr := B.returns
  have hts := atoms_spec (ws := w_MD_end) B.pre
  have hown : s.vm.findClass "FarLinkModel" = some m.cls := findClass_of_methodNamed B.named
  have hlocks := B.notSynchronized
  have hS : va_S (fl_A ad 41) s.heap s.heap [] := va_S.rf
  have hl := lv_entry ([.ref (ad 0), .int x1, .int x2]) (n := 3) (Nat.le_of_ble_eq_true rfl)
  rw [lg_entry_eq]
  generalize (lg_sl ([.ref (ad 0), .int x1, .int x2]) ++ List.replicate (3 - (lg_sl ([.ref (ad 0), .int x1, .int x2])).length) Slot.unset).toArray = ls at hl ⊢
  have hl : lv_has ls 3 [(0, .ref (ad 0)), (1, .int x1), (2, .int x2)] := hl
  have hG := g_MD_end.eq_1 M x1 x2
  refine lv_aload_n hx hb d_MD_end_0 rfl (lv_at hl 0 rfl) ?_
  refine gg_MD (k := 18) (v := .ref (ad 13)) hx hb hts hown hK hP  (hts _ (List.mem_cons_of_mem _ tw_799)) (by decide) rfl rfl d_MD_end_1 ?_
  refine lv_iload_n hx hb d_MD_end_4 rfl (lv_at hl 1 rfl) ?_
  refine lv_iconst (v := 1) hx hb d_MD_end_5 (by decide) ?_
  refine sg_Aended hx hb hK hi hP hS  (rfl) (by assumption) d_MD_end_6 (fun H locs hP hS => ?_)
  refine lv_aload_n hx hb d_MD_end_7 rfl (lv_at hl 0 rfl) ?_
  refine gg_MD (k := 19) (v := .ref (ad 14)) hx hb hts hown hK hP  (hts _ (List.mem_cons_of_mem _ tw_800)) (by decide) rfl rfl d_MD_end_8 ?_
  refine lv_iload_n hx hb d_MD_end_11 rfl (lv_at hl 1 rfl) ?_
  refine lv_iload_n hx hb d_MD_end_12 rfl (lv_at hl 2 rfl) ?_
  refine sg_Aresult hx hb hK hi hP hS  (by assumption) d_MD_end_13 (fun H locs hP hS => ?_)
  refine lv_aload_n hx hb d_MD_end_14 rfl (lv_at hl 0 rfl) ?_
  refine gg_MD (k := 20) (v := .ref (ad 15)) hx hb hts hown hK hP  (hts _ (List.mem_cons_of_mem _ tw_801)) (by decide) rfl rfl d_MD_end_15 ?_
  refine lv_iload_n hx hb d_MD_end_18 rfl (lv_at hl 1 rfl) ?_
  refine lv_aload_n hx hb d_MD_end_19 rfl (lv_at hl 0 rfl) ?_
  refine gg_MD (k := 20) (v := .ref (ad 15)) hx hb hts hown hK hP  (hts _ (List.mem_cons_of_mem _ tw_801)) (by decide) rfl rfl d_MD_end_20 ?_
  refine lv_iload_n hx hb d_MD_end_23 rfl (lv_at hl 1 rfl) ?_
  refine ag_Adue (v := .int (M.1 15 x1.toNatClampNeg)) hx hb hK hP  (by assumption) rfl d_MD_end_24 ?_
  refine lv_ldcw (v := 262144) hx hb hown (hts _ (List.mem_cons_of_mem _ tw_1101)) d_MD_end_25 ?_
  refine lv_iand hx hb d_MD_end_28 ?_
  refine sg_Adue hx hb hK hi hP hS  (by assumption) d_MD_end_29 (fun H locs hP hS => ?_)
  refine lv_aload_n hx hb d_MD_end_30 rfl (lv_at hl 0 rfl) ?_
  refine gg_MD (k := 23) (v := .ref (ad 18)) hx hb hts hown hK hP  (hts _ (List.mem_cons_of_mem _ tw_804)) (by decide) rfl rfl d_MD_end_31 ?_
  refine lv_iload_n hx hb d_MD_end_34 rfl (lv_at hl 1 rfl) ?_
  refine lv_iconst (v := 0) hx hb d_MD_end_35 (by decide) ?_
  refine sg_Asuspended hx hb hK hi hP hS  (rfl) (by assumption) d_MD_end_36 (fun H locs hP hS => ?_)
  refine lv_aload_n hx hb d_MD_end_37 rfl (lv_at hl 0 rfl) ?_
  refine lv_dup hx hb d_MD_end_38 rfl ?_
  refine gg_MD (k := 4) (v := .int (M.1 0 4)) hx hb hts hown hK hP  (hts _ (List.mem_cons_of_mem _ tw_785)) (by decide) rfl rfl d_MD_end_39 ?_
  refine lv_iconst (v := 1) hx hb d_MD_end_42 (by decide) ?_
  refine lv_iadd hx hb d_MD_end_43 ?_
  refine pg_MD (k := 4) hx hb hts hown hK hi hP hS  (hts _ (List.mem_cons_of_mem _ tw_785)) (by decide) rfl rfl rfl rfl (Nat.le_of_ble_eq_true rfl) rfl d_MD_end_44 (fun H locs hP hS => ?_)
  exact fl_vret hx hb hr hlocks hP hS (by rw [hG]) d_MD_end_47
theorem hd_MD_end : y_MD_end.cls ≠ "java/lang/invoke/MethodHandle" ∧ y_MD_end.cls ≠ "java/lang/invoke/VarHandle" ∧ (parseMethodDescriptor y_MD_end.desc).map (fun d => d.parameters.length) = some 2 := by decide +kernel
theorem kv_MD_end {R : Room} {s : State} {args : Array Value} {c0 : Cond} {own : String} {index : Nat} (hts : ∀ w ∈ c0 :: gw, w.before args s = true) (hl : (Cond.methodLink own index y_MD_end).before args s = true) (hR : 0 + 1 ≤ R.frames ∧ 8 + (3 + 11) + 0 ≤ R.locals) : CallW R s args own "FarLinkModel" index y_MD_end b_MD_end 3 none w_MD_end ({ frames := 0, cells := 0, slots := 0, locals := 0 } : Room) 0 0 2 := ⟨callB_of 2 hts (gw_in tw_1105) rfl rfl rfl (hts _ (List.mem_cons_of_mem _ tw_10)) hl hd_MD_end hR, hts _ (List.mem_cons_of_mem _ tw_1104), hts _ (List.mem_cons_of_mem _ ps_MD_end)⟩
def g_MD_makeEndDue (M : fl_M) (x1 : Int32) : fl_M :=
  (fl_i (fl_i M 15 x1.toNatClampNeg ((M.1 15 x1.toNatClampNeg) ||| 131072)) 19 x1.toNatClampNeg 0)
set_option maxHeartbeats 400000 in
set_option maxRecDepth 100000 in
theorem c_MD_makeEndDue (l : Launch) {D : va_G} {ad : Nat → Nat} {cA : Nat → ClassId} (hi : fl_inj ad 41) (M : fl_M) (x1 : Int32) (ht : vp_in x1 16) : Met l y_MD_makeEndDue w_MD_makeEndDue ({ frames := 0, cells := 0, slots := 0, locals := 0 } : Room) (va_Pc [.ref (ad 0), .int x1] (fl_B D cls (yt cA) ([] : fl_L) ([] : fl_FN) ([] : fl_MN) ad (yc ad cA) 41 M)) (va_Qv (fun M' => M' = (g_MD_makeEndDue M x1)) (fl_E D cls ad (yc ad cA) 41) (fl_A ad 41)) 0 0 (fl_A ad 41) := by
  refine Met.ofW (cc := b_MD_makeEndDue) (maxL := 2) (ret := none) (by decide) rfl ?_
  intro p e s m args below meth c s₁ B hml hv
  obtain ⟨rfl, hP, hK, hSt, hN⟩ := hv
  have hx := B.exec
  have hb := B.bytes
  have hr := B.returns
  have hts := atoms_spec (ws := w_MD_makeEndDue) B.pre
  have hown : s.vm.findClass "FarLinkModel" = some m.cls := findClass_of_methodNamed B.named
  have hlocks := B.notSynchronized
  have hS : va_S (fl_A ad 41) s.heap s.heap [] := va_S.rf
  have hl := lv_entry ([.ref (ad 0), .int x1]) (n := 2) (Nat.le_of_ble_eq_true rfl)
  rw [lg_entry_eq]
  generalize (lg_sl ([.ref (ad 0), .int x1]) ++ List.replicate (2 - (lg_sl ([.ref (ad 0), .int x1])).length) Slot.unset).toArray = ls at hl ⊢
  have hl : lv_has ls 2 [(0, .ref (ad 0)), (1, .int x1)] := hl
  have hG := g_MD_makeEndDue.eq_1 M x1
  refine lv_aload_n hx hb d_MD_makeEndDue_0 rfl (lv_at hl 0 rfl) ?_
  refine gg_MD (k := 20) (v := .ref (ad 15)) hx hb hts hown hK hP  (hts _ (List.mem_cons_of_mem _ tw_801)) (by decide) rfl rfl d_MD_makeEndDue_1 ?_
  refine lv_iload_n hx hb d_MD_makeEndDue_4 rfl (lv_at hl 1 rfl) ?_
  refine lv_aload_n hx hb d_MD_makeEndDue_5 rfl (lv_at hl 0 rfl) ?_
  refine gg_MD (k := 20) (v := .ref (ad 15)) hx hb hts hown hK hP  (hts _ (List.mem_cons_of_mem _ tw_801)) (by decide) rfl rfl d_MD_makeEndDue_6 ?_
  refine lv_iload_n hx hb d_MD_makeEndDue_9 rfl (lv_at hl 1 rfl) ?_
  refine ag_Adue (v := .int (M.1 15 x1.toNatClampNeg)) hx hb hK hP  (by assumption) rfl d_MD_makeEndDue_10 ?_
  refine lv_ldcw (v := 131072) hx hb hown (hts _ (List.mem_cons_of_mem _ tw_998)) d_MD_makeEndDue_11 ?_
  refine lv_ior hx hb d_MD_makeEndDue_14 ?_
  refine sg_Adue hx hb hK hi hP hS  (by assumption) d_MD_makeEndDue_15 (fun H locs hP hS => ?_)
  refine lv_aload_n hx hb d_MD_makeEndDue_16 rfl (lv_at hl 0 rfl) ?_
  refine gg_MD (k := 24) (v := .ref (ad 19)) hx hb hts hown hK hP  (hts _ (List.mem_cons_of_mem _ tw_805)) (by decide) rfl rfl d_MD_makeEndDue_17 ?_
  refine lv_iload_n hx hb d_MD_makeEndDue_20 rfl (lv_at hl 1 rfl) ?_
  refine lv_iconst (v := 0) hx hb d_MD_makeEndDue_21 (by decide) ?_
  refine sg_AendSent hx hb hK hi hP hS  (rfl) (by assumption) d_MD_makeEndDue_22 (fun H locs hP hS => ?_)
  exact fl_vret hx hb hr hlocks hP hS (by rw [hG]) d_MD_makeEndDue_23
theorem hd_MD_makeEndDue : y_MD_makeEndDue.cls ≠ "java/lang/invoke/MethodHandle" ∧ y_MD_makeEndDue.cls ≠ "java/lang/invoke/VarHandle" ∧ (parseMethodDescriptor y_MD_makeEndDue.desc).map (fun d => d.parameters.length) = some 1 := by decide +kernel
theorem kv_MD_makeEndDue {R : Room} {s : State} {args : Array Value} {c0 : Cond} {own : String} {index : Nat} (hts : ∀ w ∈ c0 :: gw, w.before args s = true) (hl : (Cond.methodLink own index y_MD_makeEndDue).before args s = true) (hR : 0 + 1 ≤ R.frames ∧ 8 + (2 + 11) + 0 ≤ R.locals) : CallW R s args own "FarLinkModel" index y_MD_makeEndDue b_MD_makeEndDue 2 none w_MD_makeEndDue ({ frames := 0, cells := 0, slots := 0, locals := 0 } : Room) 0 0 1 := ⟨callB_of 1 hts (gw_in tw_1010) rfl rfl rfl (hts _ (List.mem_cons_of_mem _ tw_10)) hl hd_MD_makeEndDue hR, hts _ (List.mem_cons_of_mem _ tw_1009), hts _ (List.mem_cons_of_mem _ ps_MD_makeEndDue)⟩
def g_MD_send (M : fl_M) (x1 : Int32) (x2 : Int64) : fl_M :=
  if (M.1 4 x1.toNatClampNeg) = 0 then ((fl_i (fl_i (fl_i (fl_l (fl_l M 1 (((8 * x1) + ((M.1 0 3) &&& 7)).toNatClampNeg) (x2 ^^^ (M.2 3 x1.toNatClampNeg))) 3 x1.toNatClampNeg 0) 2 (((8 * x1) + ((M.1 0 3) &&& 7)).toNatClampNeg) 1) 4 x1.toNatClampNeg 0) 5 x1.toNatClampNeg ((M.1 5 x1.toNatClampNeg) + 1))) else (if (M.1 4 x1.toNatClampNeg) ≤ 0 then ((fl_i (fl_i (fl_i (fl_l (fl_l M 1 (((8 * x1) + ((M.1 0 3) &&& 7)).toNatClampNeg) (x2 ^^^ (M.2 3 x1.toNatClampNeg))) 3 x1.toNatClampNeg 0) 2 (((8 * x1) + ((M.1 0 3) &&& 7)).toNatClampNeg) 0) 4 x1.toNatClampNeg 0) 5 x1.toNatClampNeg ((M.1 5 x1.toNatClampNeg) + 1))) else ((fl_i (fl_i (fl_i (fl_l (fl_l M 1 (((8 * x1) + ((M.1 0 3) &&& 7)).toNatClampNeg) (x2 ^^^ (M.2 3 x1.toNatClampNeg))) 3 x1.toNatClampNeg 0) 2 (((8 * x1) + ((M.1 0 3) &&& 7)).toNatClampNeg) 0) 4 x1.toNatClampNeg ((M.1 4 x1.toNatClampNeg) - 1)) 5 x1.toNatClampNeg ((M.1 5 x1.toNatClampNeg) + 1))))
set_option maxHeartbeats 400000 in
set_option maxRecDepth 100000 in
theorem c_MD_send (l : Launch) {D : va_G} {ad : Nat → Nat} {cA : Nat → ClassId} (hi : fl_inj ad 41) (M : fl_M) (x1 : Int32) (x2 : Int64) (hw : vp_in x1 2) : Met l y_MD_send w_MD_send ({ frames := 0, cells := 0, slots := 0, locals := 0 } : Room) (va_Pc [.ref (ad 0), .int x1, .long x2] (fl_B D cls (yt cA) ([] : fl_L) ([] : fl_FN) ([] : fl_MN) ad (yc ad cA) 41 M)) (va_Qv (fun M' => M' = (g_MD_send M x1 x2)) (fl_E D cls ad (yc ad cA) 41) (fl_A ad 41)) 0 0 (fl_A ad 41) := by
  refine Met.ofW (cc := b_MD_send) (maxL := 5) (ret := none) (by decide) rfl ?_
  intro p e s m args below meth c s₁ B hml hv
  obtain ⟨rfl, hP, hK, hSt, hN⟩ := hv
  have hx := B.exec
  have hb := B.bytes
  have hr := B.returns
  have hts := atoms_spec (ws := w_MD_send) B.pre
  have hown : s.vm.findClass "FarLinkModel" = some m.cls := findClass_of_methodNamed B.named
  have hlocks := B.notSynchronized
  have hS : va_S (fl_A ad 41) s.heap s.heap [] := va_S.rf
  have hl := lv_entry ([.ref (ad 0), .int x1, .long x2]) (n := 5) (Nat.le_of_ble_eq_true rfl)
  rw [lg_entry_eq]
  generalize (lg_sl ([.ref (ad 0), .int x1, .long x2]) ++ List.replicate (5 - (lg_sl ([.ref (ad 0), .int x1, .long x2])).length) Slot.unset).toArray = ls at hl ⊢
  have hl : lv_has ls 5 [(0, .ref (ad 0)), (1, .int x1), (2, .long x2)] := hl
  have hG := g_MD_send.eq_1 M x1 x2
  refine lv_bipush (v := 8) hx hb d_MD_send_0 (by decide) ?_
  refine lv_iload_n hx hb d_MD_send_2 rfl (lv_at hl 1 rfl) ?_
  refine lv_imul hx hb d_MD_send_3 ?_
  refine lv_aload_n hx hb d_MD_send_4 rfl (lv_at hl 0 rfl) ?_
  refine gg_MD (k := 3) (v := .int (M.1 0 3)) hx hb hts hown hK hP  (hts _ (List.mem_cons_of_mem _ tw_784)) (by decide) rfl rfl d_MD_send_5 ?_
  refine lv_bipush (v := 7) hx hb d_MD_send_8 (by decide) ?_
  refine lv_iand hx hb d_MD_send_10 ?_
  refine lv_iadd hx hb d_MD_send_11 ?_
  refine lv_istore (lv' := [(4, .int ((8 * x1) + ((M.1 0 3) &&& 7))), (0, .ref (ad 0)), (1, .int x1), (2, .long x2)]) hx hb d_MD_send_12 hl (by decide) rfl (fun ls hl => ?_)
  refine lv_aload_n hx hb d_MD_send_14 rfl (lv_at hl 1 rfl) ?_
  refine gg_MD (k := 5) (v := .ref (ad 1)) hx hb hts hown hK hP  (hts _ (List.mem_cons_of_mem _ tw_786)) (by decide) rfl rfl d_MD_send_15 ?_
  refine lv_iload hx hb d_MD_send_18 (lv_at hl 0 rfl) ?_
  refine lv_lload_n hx hb d_MD_send_20 rfl (lv_at hl 3 rfl) ?_
  refine lv_aload_n hx hb d_MD_send_21 rfl (lv_at hl 1 rfl) ?_
  refine gg_MD (k := 7) (v := .ref (ad 3)) hx hb hts hown hK hP  (hts _ (List.mem_cons_of_mem _ tw_788)) (by decide) rfl rfl d_MD_send_22 ?_
  refine lv_iload_n hx hb d_MD_send_25 rfl (lv_at hl 2 rfl) ?_
  refine ag_Anoises (v := .long (M.2 3 x1.toNatClampNeg)) hx hb hK hP  (by assumption) rfl d_MD_send_26 ?_
  refine lv_lxor hx hb d_MD_send_27 ?_
  refine sg_Ablock hx hb hK hi hP hS  (in_way hw) d_MD_send_28 (fun H locs hP hS => ?_)
  refine lv_aload_n hx hb d_MD_send_29 rfl (lv_at hl 1 rfl) ?_
  refine gg_MD (k := 7) (v := .ref (ad 3)) hx hb hts hown hK hP  (hts _ (List.mem_cons_of_mem _ tw_788)) (by decide) rfl rfl d_MD_send_30 ?_
  refine lv_iload_n hx hb d_MD_send_33 rfl (lv_at hl 2 rfl) ?_
  refine lv_lconst (v := 0) hx hb d_MD_send_34 (by decide) ?_
  refine sg_Anoises hx hb hK hi hP hS  (by assumption) d_MD_send_35 (fun H locs hP hS => ?_)
  refine lv_aload_n hx hb d_MD_send_36 rfl (lv_at hl 1 rfl) ?_
  refine gg_MD (k := 6) (v := .ref (ad 2)) hx hb hts hown hK hP  (hts _ (List.mem_cons_of_mem _ tw_787)) (by decide) rfl rfl d_MD_send_37 ?_
  refine lv_iload hx hb d_MD_send_40 (lv_at hl 0 rfl) ?_
  refine lv_aload_n hx hb d_MD_send_42 rfl (lv_at hl 1 rfl) ?_
  refine gg_MD (k := 8) (v := .ref (ad 4)) hx hb hts hown hK hP  (hts _ (List.mem_cons_of_mem _ tw_789)) (by decide) rfl rfl d_MD_send_43 ?_
  refine lv_iload_n hx hb d_MD_send_46 rfl (lv_at hl 2 rfl) ?_
  refine ag_Aoutages (v := .int (M.1 4 x1.toNatClampNeg)) hx hb hK hP  (by assumption) rfl d_MD_send_47 ?_
  refine lv_if_ne (tgt := 55) hx hb d_MD_send_48 (by decide) (fun h_1 => ?_) (fun h_1 => ?_)
  ·
    have hG := hG.trans (if_neg h_1)
    refine lv_iconst (v := 0) hx hb d_MD_send_55 (by decide) ?_
    refine sg_Aheard hx hb hK hi hP hS  (rfl) (in_way hw) d_MD_send_56 (fun H locs hP hS => ?_)
    refine lv_aload_n hx hb d_MD_send_57 rfl (lv_at hl 1 rfl) ?_
    refine gg_MD (k := 8) (v := .ref (ad 4)) hx hb hts hown hK hP  (hts _ (List.mem_cons_of_mem _ tw_789)) (by decide) rfl rfl d_MD_send_58 ?_
    refine lv_iload_n hx hb d_MD_send_61 rfl (lv_at hl 2 rfl) ?_
    refine lv_aload_n hx hb d_MD_send_62 rfl (lv_at hl 1 rfl) ?_
    refine gg_MD (k := 8) (v := .ref (ad 4)) hx hb hts hown hK hP  (hts _ (List.mem_cons_of_mem _ tw_789)) (by decide) rfl rfl d_MD_send_63 ?_
    refine lv_iload_n hx hb d_MD_send_66 rfl (lv_at hl 2 rfl) ?_
    refine ag_Aoutages (v := .int (M.1 4 x1.toNatClampNeg)) hx hb hK hP  (by assumption) rfl d_MD_send_67 ?_
    refine lv_if_le (tgt := 82) hx hb d_MD_send_68 (by decide) (fun h_2 => ?_) (fun h_2 => ?_)
    ·
      have hG := hG.trans (if_pos h_2)
      refine lv_iconst (v := 0) hx hb d_MD_send_82 (by decide) ?_
      refine sg_Aoutages hx hb hK hi hP hS  (by assumption) d_MD_send_83 (fun H locs hP hS => ?_)
      refine lv_aload_n hx hb d_MD_send_84 rfl (lv_at hl 1 rfl) ?_
      refine gg_MD (k := 9) (v := .ref (ad 5)) hx hb hts hown hK hP  (hts _ (List.mem_cons_of_mem _ tw_790)) (by decide) rfl rfl d_MD_send_85 ?_
      refine lv_iload_n hx hb d_MD_send_88 rfl (lv_at hl 2 rfl) ?_
      refine lv_dup2_11 hx hb d_MD_send_89 rfl rfl ?_
      refine ag_Asents (v := .int (M.1 5 x1.toNatClampNeg)) hx hb hK hP  (by assumption) rfl d_MD_send_90 ?_
      refine lv_iconst (v := 1) hx hb d_MD_send_91 (by decide) ?_
      refine lv_iadd hx hb d_MD_send_92 ?_
      refine sg_Asents hx hb hK hi hP hS  (by assumption) d_MD_send_93 (fun H locs hP hS => ?_)
      exact fl_vret hx hb hr hlocks hP hS (by rw [hG]) d_MD_send_94
    ·
      have hG := hG.trans (if_neg h_2)
      refine lv_aload_n hx hb d_MD_send_71 rfl (lv_at hl 1 rfl) ?_
      refine gg_MD (k := 8) (v := .ref (ad 4)) hx hb hts hown hK hP  (hts _ (List.mem_cons_of_mem _ tw_789)) (by decide) rfl rfl d_MD_send_72 ?_
      refine lv_iload_n hx hb d_MD_send_75 rfl (lv_at hl 2 rfl) ?_
      refine ag_Aoutages (v := .int (M.1 4 x1.toNatClampNeg)) hx hb hK hP  (by assumption) rfl d_MD_send_76 ?_
      refine lv_iconst (v := 1) hx hb d_MD_send_77 (by decide) ?_
      refine lv_isub hx hb d_MD_send_78 ?_
      refine lv_goto (tgt := 83) hx hb d_MD_send_79 (by decide) ?_
      refine sg_Aoutages hx hb hK hi hP hS  (by assumption) d_MD_send_83 (fun H locs hP hS => ?_)
      refine lv_aload_n hx hb d_MD_send_84 rfl (lv_at hl 1 rfl) ?_
      refine gg_MD (k := 9) (v := .ref (ad 5)) hx hb hts hown hK hP  (hts _ (List.mem_cons_of_mem _ tw_790)) (by decide) rfl rfl d_MD_send_85 ?_
      refine lv_iload_n hx hb d_MD_send_88 rfl (lv_at hl 2 rfl) ?_
      refine lv_dup2_11 hx hb d_MD_send_89 rfl rfl ?_
      refine ag_Asents (v := .int (M.1 5 x1.toNatClampNeg)) hx hb hK hP  (by assumption) rfl d_MD_send_90 ?_
      refine lv_iconst (v := 1) hx hb d_MD_send_91 (by decide) ?_
      refine lv_iadd hx hb d_MD_send_92 ?_
      refine sg_Asents hx hb hK hi hP hS  (by assumption) d_MD_send_93 (fun H locs hP hS => ?_)
      exact fl_vret hx hb hr hlocks hP hS (by rw [hG]) d_MD_send_94
  ·
    have hG := hG.trans (if_pos h_1)
    refine lv_iconst (v := 1) hx hb d_MD_send_51 (by decide) ?_
    refine lv_goto (tgt := 56) hx hb d_MD_send_52 (by decide) ?_
    refine sg_Aheard hx hb hK hi hP hS  (rfl) (in_way hw) d_MD_send_56 (fun H locs hP hS => ?_)
    refine lv_aload_n hx hb d_MD_send_57 rfl (lv_at hl 1 rfl) ?_
    refine gg_MD (k := 8) (v := .ref (ad 4)) hx hb hts hown hK hP  (hts _ (List.mem_cons_of_mem _ tw_789)) (by decide) rfl rfl d_MD_send_58 ?_
    refine lv_iload_n hx hb d_MD_send_61 rfl (lv_at hl 2 rfl) ?_
    refine lv_aload_n hx hb d_MD_send_62 rfl (lv_at hl 1 rfl) ?_
    refine gg_MD (k := 8) (v := .ref (ad 4)) hx hb hts hown hK hP  (hts _ (List.mem_cons_of_mem _ tw_789)) (by decide) rfl rfl d_MD_send_63 ?_
    refine lv_iload_n hx hb d_MD_send_66 rfl (lv_at hl 2 rfl) ?_
    refine ag_Aoutages (v := .int (M.1 4 x1.toNatClampNeg)) hx hb hK hP  (by assumption) rfl d_MD_send_67 ?_
    refine lv_if_le (tgt := 82) hx hb d_MD_send_68 (by decide) (fun _ => ?_) (fun h_3 => absurd (by rw [h_1]; decide) h_3)
    refine lv_iconst (v := 0) hx hb d_MD_send_82 (by decide) ?_
    refine sg_Aoutages hx hb hK hi hP hS  (by assumption) d_MD_send_83 (fun H locs hP hS => ?_)
    refine lv_aload_n hx hb d_MD_send_84 rfl (lv_at hl 1 rfl) ?_
    refine gg_MD (k := 9) (v := .ref (ad 5)) hx hb hts hown hK hP  (hts _ (List.mem_cons_of_mem _ tw_790)) (by decide) rfl rfl d_MD_send_85 ?_
    refine lv_iload_n hx hb d_MD_send_88 rfl (lv_at hl 2 rfl) ?_
    refine lv_dup2_11 hx hb d_MD_send_89 rfl rfl ?_
    refine ag_Asents (v := .int (M.1 5 x1.toNatClampNeg)) hx hb hK hP  (by assumption) rfl d_MD_send_90 ?_
    refine lv_iconst (v := 1) hx hb d_MD_send_91 (by decide) ?_
    refine lv_iadd hx hb d_MD_send_92 ?_
    refine sg_Asents hx hb hK hi hP hS  (by assumption) d_MD_send_93 (fun H locs hP hS => ?_)
    exact fl_vret hx hb hr hlocks hP hS (by rw [hG]) d_MD_send_94
theorem hd_MD_send : y_MD_send.cls ≠ "java/lang/invoke/MethodHandle" ∧ y_MD_send.cls ≠ "java/lang/invoke/VarHandle" ∧ (parseMethodDescriptor y_MD_send.desc).map (fun d => d.parameters.length) = some 2 := by decide +kernel
theorem kv_MD_send {R : Room} {s : State} {args : Array Value} {c0 : Cond} {own : String} {index : Nat} (hts : ∀ w ∈ c0 :: gw, w.before args s = true) (hl : (Cond.methodLink own index y_MD_send).before args s = true) (hR : 0 + 1 ≤ R.frames ∧ 8 + (5 + 11) + 0 ≤ R.locals) : CallW R s args own "FarLinkModel" index y_MD_send b_MD_send 5 none w_MD_send ({ frames := 0, cells := 0, slots := 0, locals := 0 } : Room) 0 0 2 := ⟨callB_of 2 hts (gw_in tw_1079) rfl rfl rfl (hts _ (List.mem_cons_of_mem _ tw_10)) hl hd_MD_send hR, hts _ (List.mem_cons_of_mem _ tw_1078), hts _ (List.mem_cons_of_mem _ ps_MD_send)⟩
def g_MD_hear (M : fl_M) (x1 : Int32) : Int64 × fl_M :=
  if (M.1 0 3) ≤ (M.1 0 0) then (((-1), M)) else (if (M.1 2 (((8 * x1) + (((M.1 0 3) - (M.1 0 0)) &&& 7)).toNatClampNeg)) = 0 then (((-1), M)) else (if x1 = 0 then (if 0 ≤ (lg_cmp (g_MD_decode 1 (M.2 1 (((8 * x1) + (((M.1 0 3) - (M.1 0 0)) &&& 7)).toNatClampNeg))) 0) then (if (g_MD_upRest (M.2 1 (((8 * x1) + (((M.1 0 3) - (M.1 0 0)) &&& 7)).toNatClampNeg))) = 0 then (((g_MD_decode 1 (M.2 1 (((8 * x1) + (((M.1 0 3) - (M.1 0 0)) &&& 7)).toNatClampNeg))), (fl_i (fl_i M 2 (((8 * x1) + (((M.1 0 3) - (M.1 0 0)) &&& 7)).toNatClampNeg) 0) 7 x1.toNatClampNeg ((M.1 7 x1.toNatClampNeg) + 0)))) else (((g_MD_decode 1 (M.2 1 (((8 * x1) + (((M.1 0 3) - (M.1 0 0)) &&& 7)).toNatClampNeg))), (fl_i (fl_i M 2 (((8 * x1) + (((M.1 0 3) - (M.1 0 0)) &&& 7)).toNatClampNeg) 0) 7 x1.toNatClampNeg ((M.1 7 x1.toNatClampNeg) + 1))))) else (((-1), (fl_i (fl_i M 2 (((8 * x1) + (((M.1 0 3) - (M.1 0 0)) &&& 7)).toNatClampNeg) 0) 6 x1.toNatClampNeg ((M.1 6 x1.toNatClampNeg) + 1))))) else (if 0 ≤ (lg_cmp (g_MD_decode 0 (M.2 1 (((8 * x1) + (((M.1 0 3) - (M.1 0 0)) &&& 7)).toNatClampNeg))) 0) then (if (g_MD_downRest (M.2 1 (((8 * x1) + (((M.1 0 3) - (M.1 0 0)) &&& 7)).toNatClampNeg))) = 0 then (((g_MD_decode 0 (M.2 1 (((8 * x1) + (((M.1 0 3) - (M.1 0 0)) &&& 7)).toNatClampNeg))), (fl_i (fl_i M 2 (((8 * x1) + (((M.1 0 3) - (M.1 0 0)) &&& 7)).toNatClampNeg) 0) 7 x1.toNatClampNeg ((M.1 7 x1.toNatClampNeg) + 0)))) else (((g_MD_decode 0 (M.2 1 (((8 * x1) + (((M.1 0 3) - (M.1 0 0)) &&& 7)).toNatClampNeg))), (fl_i (fl_i M 2 (((8 * x1) + (((M.1 0 3) - (M.1 0 0)) &&& 7)).toNatClampNeg) 0) 7 x1.toNatClampNeg ((M.1 7 x1.toNatClampNeg) + 1))))) else (((-1), (fl_i (fl_i M 2 (((8 * x1) + (((M.1 0 3) - (M.1 0 0)) &&& 7)).toNatClampNeg) 0) 6 x1.toNatClampNeg ((M.1 6 x1.toNatClampNeg) + 1)))))))
set_option maxHeartbeats 400000 in
set_option maxRecDepth 100000 in
theorem c_MD_hear (l : Launch) {D : va_G} {ad : Nat → Nat} {cA : Nat → ClassId} (hi : fl_inj ad 41) (M : fl_M) (x1 : Int32) (hw : vp_in x1 2) : Met l y_MD_hear w_MD_hear ({ frames := 6, cells := 0, slots := 0, locals := 145 } : Room) (va_Pc [.ref (ad 0), .int x1] (fl_B D cls (yt cA) ([] : fl_L) ([] : fl_FN) ([] : fl_MN) ad (yc ad cA) 41 M)) (va_Ql (fun r M' => r = (g_MD_hear M x1).1 ∧ M' = ((g_MD_hear M x1).2)) (fl_E D cls ad (yc ad cA) 41) (fl_A ad 41)) 0 0 (fl_A ad 41) := by
  refine Met.ofW (cc := b_MD_hear) (maxL := 6) (ret := (some .long)) (by decide) rfl ?_
  intro p e s m args below meth c s₁ B hml hv
  obtain ⟨rfl, hP, hK, hSt, hN⟩ := hv
  have hx := B.exec
  have hb := B.bytes
  have hr := B.returns
  have hts := atoms_spec (ws := w_MD_hear) B.pre
  have hown : s.vm.findClass "FarLinkModel" = some m.cls := findClass_of_methodNamed B.named
  have hlocks := B.notSynchronized
  have hS : va_S (fl_A ad 41) s.heap s.heap [] := va_S.rf
  have hl := lv_entry ([.ref (ad 0), .int x1]) (n := 6) (Nat.le_of_ble_eq_true rfl)
  rw [lg_entry_eq]
  generalize (lg_sl ([.ref (ad 0), .int x1]) ++ List.replicate (6 - (lg_sl ([.ref (ad 0), .int x1])).length) Slot.unset).toArray = ls at hl ⊢
  have hl : lv_has ls 6 [(0, .ref (ad 0)), (1, .int x1)] := hl
  have hG := g_MD_hear.eq_1 M x1
  refine lv_bipush (v := 8) hx hb d_MD_hear_0 (by decide) ?_
  refine lv_iload_n hx hb d_MD_hear_2 rfl (lv_at hl 1 rfl) ?_
  refine lv_imul hx hb d_MD_hear_3 ?_
  refine lv_aload_n hx hb d_MD_hear_4 rfl (lv_at hl 0 rfl) ?_
  refine gg_MD (k := 3) (v := .int (M.1 0 3)) hx hb hts hown hK hP  (hts _ (List.mem_cons_of_mem _ tw_784)) (by decide) rfl rfl d_MD_hear_5 ?_
  refine lv_aload_n hx hb d_MD_hear_8 rfl (lv_at hl 0 rfl) ?_
  refine gg_MD (k := 0) (v := .int (M.1 0 0)) hx hb hts hown hK hP  (hts _ (List.mem_cons_of_mem _ tw_781)) (by decide) rfl rfl d_MD_hear_9 ?_
  refine lv_isub hx hb d_MD_hear_12 ?_
  refine lv_bipush (v := 7) hx hb d_MD_hear_13 (by decide) ?_
  refine lv_iand hx hb d_MD_hear_15 ?_
  refine lv_iadd hx hb d_MD_hear_16 ?_
  refine lv_istore_n (lv' := [(2, .int ((8 * x1) + (((M.1 0 3) - (M.1 0 0)) &&& 7))), (0, .ref (ad 0)), (1, .int x1)]) hx hb d_MD_hear_17 rfl hl (by decide) rfl (fun ls hl => ?_)
  refine lv_aload_n hx hb d_MD_hear_18 rfl (lv_at hl 1 rfl) ?_
  refine gg_MD (k := 3) (v := .int (M.1 0 3)) hx hb hts hown hK hP  (hts _ (List.mem_cons_of_mem _ tw_784)) (by decide) rfl rfl d_MD_hear_19 ?_
  refine lv_aload_n hx hb d_MD_hear_22 rfl (lv_at hl 1 rfl) ?_
  refine gg_MD (k := 0) (v := .int (M.1 0 0)) hx hb hts hown hK hP  (hts _ (List.mem_cons_of_mem _ tw_781)) (by decide) rfl rfl d_MD_hear_23 ?_
  refine lv_icmp_le (tgt := 38) hx hb d_MD_hear_26 (by decide) (fun h_1 => ?_) (fun h_1 => ?_)
  ·
    have hG := hG.trans (if_pos h_1)
    refine lv_ldc2 (v := -1) hx hb hown (hts _ (List.mem_cons_of_mem _ tw_973)) d_MD_hear_38 ?_
    exact fl_lret hx hb hr hlocks hP hS (congrArg Prod.fst hG).symm (by rw [hG]) d_MD_hear_41
  ·
    have hG := hG.trans (if_neg h_1)
    refine lv_aload_n hx hb d_MD_hear_29 rfl (lv_at hl 1 rfl) ?_
    refine gg_MD (k := 6) (v := .ref (ad 2)) hx hb hts hown hK hP  (hts _ (List.mem_cons_of_mem _ tw_787)) (by decide) rfl rfl d_MD_hear_30 ?_
    refine lv_iload_n hx hb d_MD_hear_33 rfl (lv_at hl 0 rfl) ?_
    refine ag_Aheard (v := .int (M.1 2 (((8 * x1) + (((M.1 0 3) - (M.1 0 0)) &&& 7)).toNatClampNeg))) hx hb hK hP  (in_way hw) rfl d_MD_hear_34 ?_
    refine lv_if_ne (tgt := 42) hx hb d_MD_hear_35 (by decide) (fun h_2 => ?_) (fun h_2 => ?_)
    ·
      have hG := hG.trans (if_neg h_2)
      refine lv_aload_n hx hb d_MD_hear_42 rfl (lv_at hl 1 rfl) ?_
      refine gg_MD (k := 6) (v := .ref (ad 2)) hx hb hts hown hK hP  (hts _ (List.mem_cons_of_mem _ tw_787)) (by decide) rfl rfl d_MD_hear_43 ?_
      refine lv_iload_n hx hb d_MD_hear_46 rfl (lv_at hl 0 rfl) ?_
      refine lv_iconst (v := 0) hx hb d_MD_hear_47 (by decide) ?_
      refine sg_Aheard hx hb hK hi hP hS  (rfl) (in_way hw) d_MD_hear_48 (fun H locs hP hS => ?_)
      refine lv_aload_n hx hb d_MD_hear_49 rfl (lv_at hl 1 rfl) ?_
      refine lv_iload_n hx hb d_MD_hear_50 rfl (lv_at hl 2 rfl) ?_
      refine lv_if_ne (tgt := 58) hx hb d_MD_hear_51 (by decide) (fun h_3 => ?_) (fun h_3 => ?_)
      ·
        have hG := hG.trans (if_neg h_3)
        refine lv_iconst (v := 0) hx hb d_MD_hear_58 (by decide) ?_
        refine lv_aload_n hx hb d_MD_hear_59 rfl (lv_at hl 1 rfl) ?_
        refine gg_MD (k := 5) (v := .ref (ad 1)) hx hb hts hown hK hP  (hts _ (List.mem_cons_of_mem _ tw_786)) (by decide) rfl rfl d_MD_hear_60 ?_
        refine lv_iload_n hx hb d_MD_hear_63 rfl (lv_at hl 0 rfl) ?_
        refine ag_Ablock (v := .long (M.2 1 (((8 * x1) + (((M.1 0 3) - (M.1 0 0)) &&& 7)).toNatClampNeg))) hx hb hK hP  (in_way hw) rfl d_MD_hear_64 ?_
        refine fl_calll (va_runV (As := [.int 0, .long (M.2 1 (((8 * x1) + (((M.1 0 3) - (M.1 0 0)) &&& 7)).toNatClampNeg))]) (rest := []) ⟨hx, hb, hml, hown, hts⟩ (c_MD_decode l hi (fl_i M 2 (((8 * x1) + (((M.1 0 3) - (M.1 0 0)) &&& 7)).toNatClampNeg) 0) 0 (M.2 1 (((8 * x1) + (((M.1 0 3) - (M.1 0 0)) &&& 7)).toNatClampNeg))) (kv_MD_decode hts (hts _ (List.mem_cons_of_mem _ tw_1035)) ⟨Nat.le_of_ble_eq_true rfl, Nat.le_of_ble_eq_true rfl⟩) (fl_preV hK hSt hN hS hP (by decide) (kg_MD) rfl) rfl rfl hl.1 rfl (lv_room (Nat.le_of_ble_eq_true rfl)) d_MD_hear_65 ⟨Nat.zero_le _, Nat.zero_le _⟩) hS (fun H locs hP hS => ?_)
        refine lv_lstore_n (lv' := [(3, .long (g_MD_decode 0 (M.2 1 (((8 * x1) + (((M.1 0 3) - (M.1 0 0)) &&& 7)).toNatClampNeg)))), (2, .int ((8 * x1) + (((M.1 0 3) - (M.1 0 0)) &&& 7))), (0, .ref (ad 0)), (1, .int x1)]) hx hb d_MD_hear_68 rfl hl (by decide) rfl (fun ls hl => ?_)
        refine lv_lload_n hx hb d_MD_hear_69 rfl (lv_at hl 0 rfl) ?_
        refine lv_lconst (v := 0) hx hb d_MD_hear_70 (by decide) ?_
        refine W.lcmp hx hb d_MD_hear_71 ?_
        refine lv_if_ge (tgt := 89) hx hb d_MD_hear_72 (by decide) (fun h_4 => ?_) (fun h_4 => ?_)
        ·
          have hG := hG.trans (if_pos h_4)
          refine lv_iload_n hx hb d_MD_hear_89 rfl (lv_at hl 3 rfl) ?_
          refine lv_if_ne (tgt := 105) hx hb d_MD_hear_90 (by decide) (fun _ => ?_) (fun h_5 => absurd h_5 (h_3))
          refine lv_aload_n hx hb d_MD_hear_105 rfl (lv_at hl 2 rfl) ?_
          refine gg_MD (k := 5) (v := .ref (ad 1)) hx hb hts hown hK hP  (hts _ (List.mem_cons_of_mem _ tw_786)) (by decide) rfl rfl d_MD_hear_106 ?_
          refine lv_iload_n hx hb d_MD_hear_109 rfl (lv_at hl 1 rfl) ?_
          refine ag_Ablock (v := .long (M.2 1 (((8 * x1) + (((M.1 0 3) - (M.1 0 0)) &&& 7)).toNatClampNeg))) hx hb hK hP  (in_way hw) rfl d_MD_hear_110 ?_
          refine fl_calli (va_runS (As := [.long (M.2 1 (((8 * x1) + (((M.1 0 3) - (M.1 0 0)) &&& 7)).toNatClampNeg))]) (rest := []) ⟨hx, hb, hml, hown, hts⟩ (c_MD_downRest l hi (fl_i M 2 (((8 * x1) + (((M.1 0 3) - (M.1 0 0)) &&& 7)).toNatClampNeg) 0) (M.2 1 (((8 * x1) + (((M.1 0 3) - (M.1 0 0)) &&& 7)).toNatClampNeg))) (kv_MD_downRest hts (hts _ (List.mem_cons_of_mem _ tw_977)) ⟨Nat.le_of_ble_eq_true rfl, Nat.le_of_ble_eq_true rfl⟩) (fl_preS hK hSt hN hS hP) rfl rfl hl.1 rfl (lv_room (Nat.le_of_ble_eq_true rfl)) d_MD_hear_111 ⟨Nat.zero_le _, Nat.zero_le _⟩) hS (fun H locs hP hS => ?_)
          refine lv_istore (lv' := [(5, .int (g_MD_downRest (M.2 1 (((8 * x1) + (((M.1 0 3) - (M.1 0 0)) &&& 7)).toNatClampNeg)))), (3, .long (g_MD_decode 0 (M.2 1 (((8 * x1) + (((M.1 0 3) - (M.1 0 0)) &&& 7)).toNatClampNeg)))), (2, .int ((8 * x1) + (((M.1 0 3) - (M.1 0 0)) &&& 7))), (0, .ref (ad 0)), (1, .int x1)]) hx hb d_MD_hear_114 hl (by decide) rfl (fun ls hl => ?_)
          refine lv_aload_n hx hb d_MD_hear_116 rfl (lv_at hl 3 rfl) ?_
          refine gg_MD (k := 11) (v := .ref (ad 7)) hx hb hts hown hK hP  (hts _ (List.mem_cons_of_mem _ tw_792)) (by decide) rfl rfl d_MD_hear_117 ?_
          refine lv_iload_n hx hb d_MD_hear_120 rfl (lv_at hl 4 rfl) ?_
          refine lv_dup2_11 hx hb d_MD_hear_121 rfl rfl ?_
          refine ag_Amended (v := .int (M.1 7 x1.toNatClampNeg)) hx hb hK hP  (by assumption) rfl d_MD_hear_122 ?_
          refine lv_iload hx hb d_MD_hear_123 (lv_at hl 0 rfl) ?_
          refine lv_if_ne (tgt := 132) hx hb d_MD_hear_125 (by decide) (fun h_6 => ?_) (fun h_6 => ?_)
          ·
            have hG := hG.trans (if_neg h_6)
            refine lv_iconst (v := 1) hx hb d_MD_hear_132 (by decide) ?_
            refine lv_iadd hx hb d_MD_hear_133 ?_
            refine sg_Amended hx hb hK hi hP hS  (by assumption) d_MD_hear_134 (fun H locs hP hS => ?_)
            refine lv_lload_n hx hb d_MD_hear_135 rfl (lv_at hl 1 rfl) ?_
            exact fl_lret hx hb hr hlocks hP hS (congrArg Prod.fst hG).symm (by rw [hG]) d_MD_hear_136
          ·
            have hG := hG.trans (if_pos h_6)
            refine lv_iconst (v := 0) hx hb d_MD_hear_128 (by decide) ?_
            refine lv_goto (tgt := 133) hx hb d_MD_hear_129 (by decide) ?_
            refine lv_iadd hx hb d_MD_hear_133 ?_
            refine sg_Amended hx hb hK hi hP hS  (by assumption) d_MD_hear_134 (fun H locs hP hS => ?_)
            refine lv_lload_n hx hb d_MD_hear_135 rfl (lv_at hl 1 rfl) ?_
            exact fl_lret hx hb hr hlocks hP hS (congrArg Prod.fst hG).symm (by rw [hG]) d_MD_hear_136
        ·
          have hG := hG.trans (if_neg h_4)
          refine lv_aload_n hx hb d_MD_hear_75 rfl (lv_at hl 2 rfl) ?_
          refine gg_MD (k := 10) (v := .ref (ad 6)) hx hb hts hown hK hP  (hts _ (List.mem_cons_of_mem _ tw_791)) (by decide) rfl rfl d_MD_hear_76 ?_
          refine lv_iload_n hx hb d_MD_hear_79 rfl (lv_at hl 3 rfl) ?_
          refine lv_dup2_11 hx hb d_MD_hear_80 rfl rfl ?_
          refine ag_Aspoilt (v := .int (M.1 6 x1.toNatClampNeg)) hx hb hK hP  (by assumption) rfl d_MD_hear_81 ?_
          refine lv_iconst (v := 1) hx hb d_MD_hear_82 (by decide) ?_
          refine lv_iadd hx hb d_MD_hear_83 ?_
          refine sg_Aspoilt hx hb hK hi hP hS  (by assumption) d_MD_hear_84 (fun H locs hP hS => ?_)
          refine lv_ldc2 (v := -1) hx hb hown (hts _ (List.mem_cons_of_mem _ tw_973)) d_MD_hear_85 ?_
          exact fl_lret hx hb hr hlocks hP hS (congrArg Prod.fst hG).symm (by rw [hG]) d_MD_hear_88
      ·
        have hG := hG.trans (if_pos h_3)
        refine lv_iconst (v := 1) hx hb d_MD_hear_54 (by decide) ?_
        refine lv_goto (tgt := 59) hx hb d_MD_hear_55 (by decide) ?_
        refine lv_aload_n hx hb d_MD_hear_59 rfl (lv_at hl 1 rfl) ?_
        refine gg_MD (k := 5) (v := .ref (ad 1)) hx hb hts hown hK hP  (hts _ (List.mem_cons_of_mem _ tw_786)) (by decide) rfl rfl d_MD_hear_60 ?_
        refine lv_iload_n hx hb d_MD_hear_63 rfl (lv_at hl 0 rfl) ?_
        refine ag_Ablock (v := .long (M.2 1 (((8 * x1) + (((M.1 0 3) - (M.1 0 0)) &&& 7)).toNatClampNeg))) hx hb hK hP  (in_way hw) rfl d_MD_hear_64 ?_
        refine fl_calll (va_runV (As := [.int 1, .long (M.2 1 (((8 * x1) + (((M.1 0 3) - (M.1 0 0)) &&& 7)).toNatClampNeg))]) (rest := []) ⟨hx, hb, hml, hown, hts⟩ (c_MD_decode l hi (fl_i M 2 (((8 * x1) + (((M.1 0 3) - (M.1 0 0)) &&& 7)).toNatClampNeg) 0) 1 (M.2 1 (((8 * x1) + (((M.1 0 3) - (M.1 0 0)) &&& 7)).toNatClampNeg))) (kv_MD_decode hts (hts _ (List.mem_cons_of_mem _ tw_1035)) ⟨Nat.le_of_ble_eq_true rfl, Nat.le_of_ble_eq_true rfl⟩) (fl_preV hK hSt hN hS hP (by decide) (kg_MD) rfl) rfl rfl hl.1 rfl (lv_room (Nat.le_of_ble_eq_true rfl)) d_MD_hear_65 ⟨Nat.zero_le _, Nat.zero_le _⟩) hS (fun H locs hP hS => ?_)
        refine lv_lstore_n (lv' := [(3, .long (g_MD_decode 1 (M.2 1 (((8 * x1) + (((M.1 0 3) - (M.1 0 0)) &&& 7)).toNatClampNeg)))), (2, .int ((8 * x1) + (((M.1 0 3) - (M.1 0 0)) &&& 7))), (0, .ref (ad 0)), (1, .int x1)]) hx hb d_MD_hear_68 rfl hl (by decide) rfl (fun ls hl => ?_)
        refine lv_lload_n hx hb d_MD_hear_69 rfl (lv_at hl 0 rfl) ?_
        refine lv_lconst (v := 0) hx hb d_MD_hear_70 (by decide) ?_
        refine W.lcmp hx hb d_MD_hear_71 ?_
        refine lv_if_ge (tgt := 89) hx hb d_MD_hear_72 (by decide) (fun h_7 => ?_) (fun h_7 => ?_)
        ·
          have hG := hG.trans (if_pos h_7)
          refine lv_iload_n hx hb d_MD_hear_89 rfl (lv_at hl 3 rfl) ?_
          refine lv_if_ne (tgt := 105) hx hb d_MD_hear_90 (by decide) (fun h_8 => absurd (h_3) h_8) (fun _ => ?_)
          refine lv_aload_n hx hb d_MD_hear_93 rfl (lv_at hl 2 rfl) ?_
          refine gg_MD (k := 5) (v := .ref (ad 1)) hx hb hts hown hK hP  (hts _ (List.mem_cons_of_mem _ tw_786)) (by decide) rfl rfl d_MD_hear_94 ?_
          refine lv_iload_n hx hb d_MD_hear_97 rfl (lv_at hl 1 rfl) ?_
          refine ag_Ablock (v := .long (M.2 1 (((8 * x1) + (((M.1 0 3) - (M.1 0 0)) &&& 7)).toNatClampNeg))) hx hb hK hP  (in_way hw) rfl d_MD_hear_98 ?_
          refine fl_calli (va_runS (As := [.long (M.2 1 (((8 * x1) + (((M.1 0 3) - (M.1 0 0)) &&& 7)).toNatClampNeg))]) (rest := []) ⟨hx, hb, hml, hown, hts⟩ (c_MD_upRest l hi (fl_i M 2 (((8 * x1) + (((M.1 0 3) - (M.1 0 0)) &&& 7)).toNatClampNeg) 0) (M.2 1 (((8 * x1) + (((M.1 0 3) - (M.1 0 0)) &&& 7)).toNatClampNeg))) (kv_MD_upRest hts (hts _ (List.mem_cons_of_mem _ tw_958)) ⟨Nat.le_of_ble_eq_true rfl, Nat.le_of_ble_eq_true rfl⟩) (fl_preS hK hSt hN hS hP) rfl rfl hl.1 rfl (lv_room (Nat.le_of_ble_eq_true rfl)) d_MD_hear_99 ⟨Nat.zero_le _, Nat.zero_le _⟩) hS (fun H locs hP hS => ?_)
          refine lv_goto (tgt := 114) hx hb d_MD_hear_102 (by decide) ?_
          refine lv_istore (lv' := [(5, .int (g_MD_upRest (M.2 1 (((8 * x1) + (((M.1 0 3) - (M.1 0 0)) &&& 7)).toNatClampNeg)))), (3, .long (g_MD_decode 1 (M.2 1 (((8 * x1) + (((M.1 0 3) - (M.1 0 0)) &&& 7)).toNatClampNeg)))), (2, .int ((8 * x1) + (((M.1 0 3) - (M.1 0 0)) &&& 7))), (0, .ref (ad 0)), (1, .int x1)]) hx hb d_MD_hear_114 hl (by decide) rfl (fun ls hl => ?_)
          refine lv_aload_n hx hb d_MD_hear_116 rfl (lv_at hl 3 rfl) ?_
          refine gg_MD (k := 11) (v := .ref (ad 7)) hx hb hts hown hK hP  (hts _ (List.mem_cons_of_mem _ tw_792)) (by decide) rfl rfl d_MD_hear_117 ?_
          refine lv_iload_n hx hb d_MD_hear_120 rfl (lv_at hl 4 rfl) ?_
          refine lv_dup2_11 hx hb d_MD_hear_121 rfl rfl ?_
          refine ag_Amended (v := .int (M.1 7 x1.toNatClampNeg)) hx hb hK hP  (by assumption) rfl d_MD_hear_122 ?_
          refine lv_iload hx hb d_MD_hear_123 (lv_at hl 0 rfl) ?_
          refine lv_if_ne (tgt := 132) hx hb d_MD_hear_125 (by decide) (fun h_9 => ?_) (fun h_9 => ?_)
          ·
            have hG := hG.trans (if_neg h_9)
            refine lv_iconst (v := 1) hx hb d_MD_hear_132 (by decide) ?_
            refine lv_iadd hx hb d_MD_hear_133 ?_
            refine sg_Amended hx hb hK hi hP hS  (by assumption) d_MD_hear_134 (fun H locs hP hS => ?_)
            refine lv_lload_n hx hb d_MD_hear_135 rfl (lv_at hl 1 rfl) ?_
            exact fl_lret hx hb hr hlocks hP hS (congrArg Prod.fst hG).symm (by rw [hG]) d_MD_hear_136
          ·
            have hG := hG.trans (if_pos h_9)
            refine lv_iconst (v := 0) hx hb d_MD_hear_128 (by decide) ?_
            refine lv_goto (tgt := 133) hx hb d_MD_hear_129 (by decide) ?_
            refine lv_iadd hx hb d_MD_hear_133 ?_
            refine sg_Amended hx hb hK hi hP hS  (by assumption) d_MD_hear_134 (fun H locs hP hS => ?_)
            refine lv_lload_n hx hb d_MD_hear_135 rfl (lv_at hl 1 rfl) ?_
            exact fl_lret hx hb hr hlocks hP hS (congrArg Prod.fst hG).symm (by rw [hG]) d_MD_hear_136
        ·
          have hG := hG.trans (if_neg h_7)
          refine lv_aload_n hx hb d_MD_hear_75 rfl (lv_at hl 2 rfl) ?_
          refine gg_MD (k := 10) (v := .ref (ad 6)) hx hb hts hown hK hP  (hts _ (List.mem_cons_of_mem _ tw_791)) (by decide) rfl rfl d_MD_hear_76 ?_
          refine lv_iload_n hx hb d_MD_hear_79 rfl (lv_at hl 3 rfl) ?_
          refine lv_dup2_11 hx hb d_MD_hear_80 rfl rfl ?_
          refine ag_Aspoilt (v := .int (M.1 6 x1.toNatClampNeg)) hx hb hK hP  (by assumption) rfl d_MD_hear_81 ?_
          refine lv_iconst (v := 1) hx hb d_MD_hear_82 (by decide) ?_
          refine lv_iadd hx hb d_MD_hear_83 ?_
          refine sg_Aspoilt hx hb hK hi hP hS  (by assumption) d_MD_hear_84 (fun H locs hP hS => ?_)
          refine lv_ldc2 (v := -1) hx hb hown (hts _ (List.mem_cons_of_mem _ tw_973)) d_MD_hear_85 ?_
          exact fl_lret hx hb hr hlocks hP hS (congrArg Prod.fst hG).symm (by rw [hG]) d_MD_hear_88
    ·
      have hG := hG.trans (if_pos h_2)
      refine lv_ldc2 (v := -1) hx hb hown (hts _ (List.mem_cons_of_mem _ tw_973)) d_MD_hear_38 ?_
      exact fl_lret hx hb hr hlocks hP hS (congrArg Prod.fst hG).symm (by rw [hG]) d_MD_hear_41
theorem hd_MD_hear : y_MD_hear.cls ≠ "java/lang/invoke/MethodHandle" ∧ y_MD_hear.cls ≠ "java/lang/invoke/VarHandle" ∧ (parseMethodDescriptor y_MD_hear.desc).map (fun d => d.parameters.length) = some 1 := by decide +kernel
theorem kv_MD_hear {R : Room} {s : State} {args : Array Value} {c0 : Cond} {own : String} {index : Nat} (hts : ∀ w ∈ c0 :: gw, w.before args s = true) (hl : (Cond.methodLink own index y_MD_hear).before args s = true) (hR : 6 + 1 ≤ R.frames ∧ 8 + (6 + 11) + 145 ≤ R.locals) : CallW R s args own "FarLinkModel" index y_MD_hear b_MD_hear 6 (some .long) w_MD_hear ({ frames := 6, cells := 0, slots := 0, locals := 145 } : Room) 0 0 1 := ⟨callB_of 1 hts (gw_in tw_1034) rfl rfl rfl (hts _ (List.mem_cons_of_mem _ tw_10)) hl hd_MD_hear hR, hts _ (List.mem_cons_of_mem _ tw_1033), hts _ (List.mem_cons_of_mem _ ps_MD_hear)⟩
def g_MD_sendUp (M : fl_M) (x1 : Int64) : fl_M :=
  (g_MD_send M 0 (g_MD_encode M 1 x1))
set_option maxHeartbeats 400000 in
set_option maxRecDepth 100000 in
theorem c_MD_sendUp (l : Launch) {D : va_G} {ad : Nat → Nat} {cA : Nat → ClassId} (hi : fl_inj ad 41) (M : fl_M) (x1 : Int64) : Met l y_MD_sendUp w_MD_sendUp ({ frames := 2, cells := 0, slots := 0, locals := 56 } : Room) (va_Pc [.ref (ad 0), .long x1] (fl_B D cls (yt cA) ([] : fl_L) ([] : fl_FN) ([] : fl_MN) ad (yc ad cA) 41 M)) (va_Qv (fun M' => M' = (g_MD_sendUp M x1)) (fl_E D cls ad (yc ad cA) 41) (fl_A ad 41)) 0 0 (fl_A ad 41) := by
  refine Met.ofW (cc := b_MD_sendUp) (maxL := 5) (ret := none) (by decide) rfl ?_
  intro p e s m args below meth c s₁ B hml hv
  obtain ⟨rfl, hP, hK, hSt, hN⟩ := hv
  have hx := B.exec
  have hb := B.bytes
  have hr := B.returns
  have hts := atoms_spec (ws := w_MD_sendUp) B.pre
  have hown : s.vm.findClass "FarLinkModel" = some m.cls := findClass_of_methodNamed B.named
  have hlocks := B.notSynchronized
  have hS : va_S (fl_A ad 41) s.heap s.heap [] := va_S.rf
  have hl := lv_entry ([.ref (ad 0), .long x1]) (n := 5) (Nat.le_of_ble_eq_true rfl)
  rw [lg_entry_eq]
  generalize (lg_sl ([.ref (ad 0), .long x1]) ++ List.replicate (5 - (lg_sl ([.ref (ad 0), .long x1])).length) Slot.unset).toArray = ls at hl ⊢
  have hl : lv_has ls 5 [(0, .ref (ad 0)), (1, .long x1)] := hl
  have hG := g_MD_sendUp.eq_1 M x1
  refine lv_aload_n hx hb d_MD_sendUp_0 rfl (lv_at hl 0 rfl) ?_
  refine lv_iconst (v := 1) hx hb d_MD_sendUp_1 (by decide) ?_
  refine lv_lload_n hx hb d_MD_sendUp_2 rfl (lv_at hl 1 rfl) ?_
  refine fl_calll (va_runV (As := [.int 1, .long x1]) (rest := []) ⟨hx, hb, hml, hown, hts⟩ (c_MD_encode l hi M 1 x1) (kv_MD_encode hts (hts _ (List.mem_cons_of_mem _ tw_1075)) ⟨Nat.le_of_ble_eq_true rfl, Nat.le_of_ble_eq_true rfl⟩) (fl_preV hK hSt hN hS hP (by decide) (kg_MD) rfl) rfl rfl hl.1 rfl (lv_room (Nat.le_of_ble_eq_true rfl)) d_MD_sendUp_3 ⟨Nat.zero_le _, Nat.zero_le _⟩) hS (fun H locs hP hS => ?_)
  refine lv_lstore_n (lv' := [(3, .long (g_MD_encode M 1 x1)), (0, .ref (ad 0)), (1, .long x1)]) hx hb d_MD_sendUp_6 rfl hl (by decide) rfl (fun ls hl => ?_)
  refine lv_aload_n hx hb d_MD_sendUp_7 rfl (lv_at hl 1 rfl) ?_
  refine lv_iconst (v := 0) hx hb d_MD_sendUp_8 (by decide) ?_
  refine lv_lload_n hx hb d_MD_sendUp_9 rfl (lv_at hl 0 rfl) ?_
  refine fl_callv (va_runV (As := [.int 0, .long (g_MD_encode M 1 x1)]) (rest := []) ⟨hx, hb, hml, hown, hts⟩ (c_MD_send l hi M 0 (g_MD_encode M 1 x1) (vp_in_nI (n := 0) (by decide) (by decide))) (kv_MD_send hts (hts _ (List.mem_cons_of_mem _ tw_1076)) ⟨Nat.le_of_ble_eq_true rfl, Nat.le_of_ble_eq_true rfl⟩) (fl_preV hK hSt hN hS hP (by decide) (kg_MD) rfl) rfl rfl hl.1 rfl (lv_room (Nat.le_of_ble_eq_true rfl)) d_MD_sendUp_10 ⟨Nat.zero_le _, Nat.zero_le _⟩) hS (fun H locs hP hS => ?_)
  exact fl_vret hx hb hr hlocks hP hS (by rw [hG]) d_MD_sendUp_13
theorem hd_MD_sendUp : y_MD_sendUp.cls ≠ "java/lang/invoke/MethodHandle" ∧ y_MD_sendUp.cls ≠ "java/lang/invoke/VarHandle" ∧ (parseMethodDescriptor y_MD_sendUp.desc).map (fun d => d.parameters.length) = some 1 := by decide +kernel
theorem kv_MD_sendUp {R : Room} {s : State} {args : Array Value} {c0 : Cond} {own : String} {index : Nat} (hts : ∀ w ∈ c0 :: gw, w.before args s = true) (hl : (Cond.methodLink own index y_MD_sendUp).before args s = true) (hR : 2 + 1 ≤ R.frames ∧ 8 + (5 + 11) + 56 ≤ R.locals) : CallW R s args own "FarLinkModel" index y_MD_sendUp b_MD_sendUp 5 none w_MD_sendUp ({ frames := 2, cells := 0, slots := 0, locals := 56 } : Room) 0 0 1 := ⟨callB_of 1 hts (gw_in tw_1123) rfl rfl rfl (hts _ (List.mem_cons_of_mem _ tw_10)) hl hd_MD_sendUp hR, hts _ (List.mem_cons_of_mem _ tw_1122), hts _ (List.mem_cons_of_mem _ ps_MD_sendUp)⟩
def g_MD_craftClocks (M : fl_M) (x1 : Int32) : fl_M :=
  if (M.1 25 x1.toNatClampNeg) = 1 then (if ((fl_i M 35 x1.toNatClampNeg ((M.1 35 x1.toNatClampNeg) - 1)).1 35 x1.toNatClampNeg) = 0 then ((g_MD_close (fl_i (fl_i M 35 x1.toNatClampNeg ((M.1 35 x1.toNatClampNeg) - 1)) 26 x1.toNatClampNeg 4) x1)) else (if ((j_ishr (M.1 27 x1.toNatClampNeg) 17) &&& 1) = 0 then ((fl_i M 35 x1.toNatClampNeg ((M.1 35 x1.toNatClampNeg) - 1))) else (if ((fl_i (fl_i M 35 x1.toNatClampNeg ((M.1 35 x1.toNatClampNeg) - 1)) 34 x1.toNatClampNeg ((M.1 34 x1.toNatClampNeg) - 1)).1 34 x1.toNatClampNeg) ≤ 0 then (if (M.1 33 x1.toNatClampNeg) = 4 then ((g_MD_finish (fl_i (fl_i M 35 x1.toNatClampNeg ((M.1 35 x1.toNatClampNeg) - 1)) 34 x1.toNatClampNeg ((M.1 34 x1.toNatClampNeg) - 1)) x1 3)) else ((fl_i (fl_i (fl_i (fl_i (fl_i (fl_i M 35 x1.toNatClampNeg ((M.1 35 x1.toNatClampNeg) - 1)) 34 x1.toNatClampNeg ((M.1 34 x1.toNatClampNeg) - 1)) 33 x1.toNatClampNeg ((M.1 33 x1.toNatClampNeg) + 1)) 34 x1.toNatClampNeg (3 * (M.1 0 1))) 37 x1.toNatClampNeg 1) 38 x1.toNatClampNeg 0))) else ((fl_i (fl_i M 35 x1.toNatClampNeg ((M.1 35 x1.toNatClampNeg) - 1)) 34 x1.toNatClampNeg ((M.1 34 x1.toNatClampNeg) - 1)))))) else (if (M.1 25 x1.toNatClampNeg) = 2 then (if ((fl_i M 34 x1.toNatClampNeg ((M.1 34 x1.toNatClampNeg) - 1)).1 34 x1.toNatClampNeg) ≤ 0 then (if (M.1 33 x1.toNatClampNeg) = 4 then ((g_MD_close (fl_i M 34 x1.toNatClampNeg ((M.1 34 x1.toNatClampNeg) - 1)) x1)) else ((fl_i (fl_i (fl_i (fl_i (fl_i M 34 x1.toNatClampNeg ((M.1 34 x1.toNatClampNeg) - 1)) 33 x1.toNatClampNeg ((M.1 33 x1.toNatClampNeg) + 1)) 34 x1.toNatClampNeg (3 * (M.1 0 1))) 37 x1.toNatClampNeg 0) 38 x1.toNatClampNeg 1))) else ((fl_i M 34 x1.toNatClampNeg ((M.1 34 x1.toNatClampNeg) - 1)))) else (M))
set_option maxHeartbeats 400000 in
set_option maxRecDepth 100000 in
theorem c_MD_craftClocks (l : Launch) {D : va_G} {ad : Nat → Nat} {cA : Nat → ClassId} (hi : fl_inj ad 41) (M : fl_M) (x1 : Int32) (ht : vp_in x1 16) : Met l y_MD_craftClocks w_MD_craftClocks ({ frames := 1, cells := 0, slots := 0, locals := 22 } : Room) (va_Pc [.ref (ad 0), .int x1] (fl_B D cls (yt cA) ([] : fl_L) ([] : fl_FN) ([] : fl_MN) ad (yc ad cA) 41 M)) (va_Qv (fun M' => M' = (g_MD_craftClocks M x1)) (fl_E D cls ad (yc ad cA) 41) (fl_A ad 41)) 0 0 (fl_A ad 41) := by
  refine Met.ofW (cc := b_MD_craftClocks) (maxL := 3) (ret := none) (by decide) rfl ?_
  intro p e s m args below meth c s₁ B hml hv
  obtain ⟨rfl, hP, hK, hSt, hN⟩ := hv
  have hx := B.exec
  have hb := B.bytes
  have hr := B.returns
  have hts := atoms_spec (ws := w_MD_craftClocks) B.pre
  have hown : s.vm.findClass "FarLinkModel" = some m.cls := findClass_of_methodNamed B.named
  have hlocks := B.notSynchronized
  have hS : va_S (fl_A ad 41) s.heap s.heap [] := va_S.rf
  have hl := lv_entry ([.ref (ad 0), .int x1]) (n := 3) (Nat.le_of_ble_eq_true rfl)
  rw [lg_entry_eq]
  generalize (lg_sl ([.ref (ad 0), .int x1]) ++ List.replicate (3 - (lg_sl ([.ref (ad 0), .int x1])).length) Slot.unset).toArray = ls at hl ⊢
  have hl : lv_has ls 3 [(0, .ref (ad 0)), (1, .int x1)] := hl
  have hG := g_MD_craftClocks.eq_1 M x1
  refine lv_aload_n hx hb d_MD_craftClocks_0 rfl (lv_at hl 0 rfl) ?_
  refine gg_MD (k := 41) (v := .ref (ad 25)) hx hb hts hown hK hP  (hts _ (List.mem_cons_of_mem _ tw_822)) (by decide) rfl rfl d_MD_craftClocks_1 ?_
  refine lv_iload_n hx hb d_MD_craftClocks_4 rfl (lv_at hl 1 rfl) ?_
  refine ag_Astage (v := .int (M.1 25 x1.toNatClampNeg)) hx hb hK hP  (by assumption) rfl d_MD_craftClocks_5 ?_
  refine lv_iconst (v := 1) hx hb d_MD_craftClocks_6 (by decide) ?_
  refine lv_icmp_ne (tgt := 42) hx hb d_MD_craftClocks_7 (by decide) (fun h_1 => ?_) (fun h_1 => ?_)
  ·
    have hG := hG.trans (if_neg h_1)
    refine lv_aload_n hx hb d_MD_craftClocks_42 rfl (lv_at hl 0 rfl) ?_
    refine gg_MD (k := 41) (v := .ref (ad 25)) hx hb hts hown hK hP  (hts _ (List.mem_cons_of_mem _ tw_822)) (by decide) rfl rfl d_MD_craftClocks_43 ?_
    refine lv_iload_n hx hb d_MD_craftClocks_46 rfl (lv_at hl 1 rfl) ?_
    refine ag_Astage (v := .int (M.1 25 x1.toNatClampNeg)) hx hb hK hP  (by assumption) rfl d_MD_craftClocks_47 ?_
    refine lv_iconst (v := 2) hx hb d_MD_craftClocks_48 (by decide) ?_
    refine lv_icmp_eq (tgt := 76) hx hb d_MD_craftClocks_49 (by decide) (fun h_2 => ?_) (fun h_2 => ?_)
    ·
      have hG := hG.trans (if_pos h_2)
      refine lv_iconst (v := 1) hx hb d_MD_craftClocks_76 (by decide) ?_
      refine lv_goto (tgt := 81) hx hb d_MD_craftClocks_77 (by decide) ?_
      refine lv_istore_n (lv' := [(2, .int 1), (0, .ref (ad 0)), (1, .int x1)]) hx hb d_MD_craftClocks_81 rfl hl (by decide) rfl (fun ls hl => ?_)
      refine lv_iload_n hx hb d_MD_craftClocks_82 rfl (lv_at hl 0 rfl) ?_
      refine lv_if_ne (tgt := 87) hx hb d_MD_craftClocks_83 (by decide) (fun _ => ?_) (fun h_3 => absurd h_3 (by decide))
      refine lv_aload_n hx hb d_MD_craftClocks_87 rfl (lv_at hl 1 rfl) ?_
      refine gg_MD (k := 50) (v := .ref (ad 34)) hx hb hts hown hK hP  (hts _ (List.mem_cons_of_mem _ tw_831)) (by decide) rfl rfl d_MD_craftClocks_88 ?_
      refine lv_iload_n hx hb d_MD_craftClocks_91 rfl (lv_at hl 2 rfl) ?_
      refine lv_dup2_11 hx hb d_MD_craftClocks_92 rfl rfl ?_
      refine ag_AcraftClock (v := .int (M.1 34 x1.toNatClampNeg)) hx hb hK hP  (by assumption) rfl d_MD_craftClocks_93 ?_
      refine lv_iconst (v := 1) hx hb d_MD_craftClocks_94 (by decide) ?_
      refine lv_isub hx hb d_MD_craftClocks_95 ?_
      refine sg_AcraftClock hx hb hK hi hP hS  (by assumption) d_MD_craftClocks_96 (fun H locs hP hS => ?_)
      refine lv_aload_n hx hb d_MD_craftClocks_97 rfl (lv_at hl 1 rfl) ?_
      refine gg_MD (k := 50) (v := .ref (ad 34)) hx hb hts hown hK hP  (hts _ (List.mem_cons_of_mem _ tw_831)) (by decide) rfl rfl d_MD_craftClocks_98 ?_
      refine lv_iload_n hx hb d_MD_craftClocks_101 rfl (lv_at hl 2 rfl) ?_
      refine ag_AcraftClock (v := .int ((fl_i M 34 x1.toNatClampNeg ((M.1 34 x1.toNatClampNeg) - 1)).1 34 x1.toNatClampNeg)) hx hb hK hP  (by assumption) rfl d_MD_craftClocks_102 ?_
      refine lv_if_le (tgt := 107) hx hb d_MD_craftClocks_103 (by decide) (fun h_4 => ?_) (fun h_4 => ?_)
      ·
        have hG := hG.trans (if_pos h_4)
        refine lv_aload_n hx hb d_MD_craftClocks_107 rfl (lv_at hl 1 rfl) ?_
        refine gg_MD (k := 49) (v := .ref (ad 33)) hx hb hts hown hK hP  (hts _ (List.mem_cons_of_mem _ tw_830)) (by decide) rfl rfl d_MD_craftClocks_108 ?_
        refine lv_iload_n hx hb d_MD_craftClocks_111 rfl (lv_at hl 2 rfl) ?_
        refine ag_AcraftTries (v := .int (M.1 33 x1.toNatClampNeg)) hx hb hK hP  (by assumption) rfl d_MD_craftClocks_112 ?_
        refine lv_iconst (v := 4) hx hb d_MD_craftClocks_113 (by decide) ?_
        refine lv_icmp_ne (tgt := 142) hx hb d_MD_craftClocks_114 (by decide) (fun h_5 => ?_) (fun h_5 => ?_)
        ·
          have hG := hG.trans (if_neg h_5)
          refine lv_aload_n hx hb d_MD_craftClocks_142 rfl (lv_at hl 1 rfl) ?_
          refine gg_MD (k := 49) (v := .ref (ad 33)) hx hb hts hown hK hP  (hts _ (List.mem_cons_of_mem _ tw_830)) (by decide) rfl rfl d_MD_craftClocks_143 ?_
          refine lv_iload_n hx hb d_MD_craftClocks_146 rfl (lv_at hl 2 rfl) ?_
          refine lv_dup2_11 hx hb d_MD_craftClocks_147 rfl rfl ?_
          refine ag_AcraftTries (v := .int (M.1 33 x1.toNatClampNeg)) hx hb hK hP  (by assumption) rfl d_MD_craftClocks_148 ?_
          refine lv_iconst (v := 1) hx hb d_MD_craftClocks_149 (by decide) ?_
          refine lv_iadd hx hb d_MD_craftClocks_150 ?_
          refine sg_AcraftTries hx hb hK hi hP hS  (by assumption) d_MD_craftClocks_151 (fun H locs hP hS => ?_)
          refine lv_aload_n hx hb d_MD_craftClocks_152 rfl (lv_at hl 1 rfl) ?_
          refine gg_MD (k := 50) (v := .ref (ad 34)) hx hb hts hown hK hP  (hts _ (List.mem_cons_of_mem _ tw_831)) (by decide) rfl rfl d_MD_craftClocks_153 ?_
          refine lv_iload_n hx hb d_MD_craftClocks_156 rfl (lv_at hl 2 rfl) ?_
          refine lv_iconst (v := 3) hx hb d_MD_craftClocks_157 (by decide) ?_
          refine lv_aload_n hx hb d_MD_craftClocks_158 rfl (lv_at hl 1 rfl) ?_
          refine gg_MD (k := 1) (v := .int (M.1 0 1)) hx hb hts hown hK hP  (hts _ (List.mem_cons_of_mem _ tw_782)) (by decide) rfl rfl d_MD_craftClocks_159 ?_
          refine lv_imul hx hb d_MD_craftClocks_162 ?_
          refine sg_AcraftClock hx hb hK hi hP hS  (by assumption) d_MD_craftClocks_163 (fun H locs hP hS => ?_)
          refine lv_aload_n hx hb d_MD_craftClocks_164 rfl (lv_at hl 1 rfl) ?_
          refine gg_MD (k := 53) (v := .ref (ad 37)) hx hb hts hown hK hP  (hts _ (List.mem_cons_of_mem _ tw_834)) (by decide) rfl rfl d_MD_craftClocks_165 ?_
          refine lv_iload_n hx hb d_MD_craftClocks_168 rfl (lv_at hl 2 rfl) ?_
          refine lv_aload_n hx hb d_MD_craftClocks_169 rfl (lv_at hl 1 rfl) ?_
          refine gg_MD (k := 41) (v := .ref (ad 25)) hx hb hts hown hK hP  (hts _ (List.mem_cons_of_mem _ tw_822)) (by decide) rfl rfl d_MD_craftClocks_170 ?_
          refine lv_iload_n hx hb d_MD_craftClocks_173 rfl (lv_at hl 2 rfl) ?_
          refine ag_Astage (v := .int (M.1 25 x1.toNatClampNeg)) hx hb hK hP  (by assumption) rfl d_MD_craftClocks_174 ?_
          refine lv_iconst (v := 1) hx hb d_MD_craftClocks_175 (by decide) ?_
          refine lv_icmp_ne (tgt := 183) hx hb d_MD_craftClocks_176 (by decide) (fun _ => ?_) (fun h_6 => absurd h_6 (h_1))
          refine lv_iconst (v := 0) hx hb d_MD_craftClocks_183 (by decide) ?_
          refine sg_AoweLack hx hb hK hi hP hS  (rfl) (by assumption) d_MD_craftClocks_184 (fun H locs hP hS => ?_)
          refine lv_aload_n hx hb d_MD_craftClocks_185 rfl (lv_at hl 1 rfl) ?_
          refine gg_MD (k := 54) (v := .ref (ad 38)) hx hb hts hown hK hP  (hts _ (List.mem_cons_of_mem _ tw_835)) (by decide) rfl rfl d_MD_craftClocks_186 ?_
          refine lv_iload_n hx hb d_MD_craftClocks_189 rfl (lv_at hl 2 rfl) ?_
          refine lv_aload_n hx hb d_MD_craftClocks_190 rfl (lv_at hl 1 rfl) ?_
          refine gg_MD (k := 41) (v := .ref (ad 25)) hx hb hts hown hK hP  (hts _ (List.mem_cons_of_mem _ tw_822)) (by decide) rfl rfl d_MD_craftClocks_191 ?_
          refine lv_iload_n hx hb d_MD_craftClocks_194 rfl (lv_at hl 2 rfl) ?_
          refine ag_Astage (v := .int (M.1 25 x1.toNatClampNeg)) hx hb hK hP  (by assumption) rfl d_MD_craftClocks_195 ?_
          refine lv_iconst (v := 2) hx hb d_MD_craftClocks_196 (by decide) ?_
          refine lv_icmp_ne (tgt := 204) hx hb d_MD_craftClocks_197 (by decide) (fun h_7 => absurd (h_2) h_7) (fun _ => ?_)
          refine lv_iconst (v := 1) hx hb d_MD_craftClocks_200 (by decide) ?_
          refine lv_goto (tgt := 205) hx hb d_MD_craftClocks_201 (by decide) ?_
          refine sg_AoweFinished hx hb hK hi hP hS  (rfl) (by assumption) d_MD_craftClocks_205 (fun H locs hP hS => ?_)
          exact fl_vret hx hb hr hlocks hP hS (by rw [hG]) d_MD_craftClocks_206
        ·
          have hG := hG.trans (if_pos h_5)
          refine lv_aload_n hx hb d_MD_craftClocks_117 rfl (lv_at hl 1 rfl) ?_
          refine gg_MD (k := 41) (v := .ref (ad 25)) hx hb hts hown hK hP  (hts _ (List.mem_cons_of_mem _ tw_822)) (by decide) rfl rfl d_MD_craftClocks_118 ?_
          refine lv_iload_n hx hb d_MD_craftClocks_121 rfl (lv_at hl 2 rfl) ?_
          refine ag_Astage (v := .int (M.1 25 x1.toNatClampNeg)) hx hb hK hP  (by assumption) rfl d_MD_craftClocks_122 ?_
          refine lv_iconst (v := 1) hx hb d_MD_craftClocks_123 (by decide) ?_
          refine lv_icmp_ne (tgt := 136) hx hb d_MD_craftClocks_124 (by decide) (fun _ => ?_) (fun h_8 => absurd h_8 (h_1))
          refine lv_aload_n hx hb d_MD_craftClocks_136 rfl (lv_at hl 1 rfl) ?_
          refine lv_iload_n hx hb d_MD_craftClocks_137 rfl (lv_at hl 2 rfl) ?_
          refine fl_callv (va_runV (As := [.int x1]) (rest := []) ⟨hx, hb, hml, hown, hts⟩ (c_MD_close l hi (fl_i M 34 x1.toNatClampNeg ((M.1 34 x1.toNatClampNeg) - 1)) x1 (by assumption)) (kv_MD_close hts (hts _ (List.mem_cons_of_mem _ tw_1061)) ⟨Nat.le_of_ble_eq_true rfl, Nat.le_of_ble_eq_true rfl⟩) (fl_preV hK hSt hN hS hP (by decide) (kg_MD) rfl) rfl rfl hl.1 rfl (lv_room (Nat.le_of_ble_eq_true rfl)) d_MD_craftClocks_138 ⟨Nat.zero_le _, Nat.zero_le _⟩) hS (fun H locs hP hS => ?_)
          exact fl_vret hx hb hr hlocks hP hS (by rw [hG]) d_MD_craftClocks_141
      ·
        have hG := hG.trans (if_neg h_4)
        exact fl_vret hx hb hr hlocks hP hS (by rw [hG]) d_MD_craftClocks_106
    ·
      have hG := hG.trans (if_neg h_2)
      refine lv_aload_n hx hb d_MD_craftClocks_52 rfl (lv_at hl 0 rfl) ?_
      refine gg_MD (k := 41) (v := .ref (ad 25)) hx hb hts hown hK hP  (hts _ (List.mem_cons_of_mem _ tw_822)) (by decide) rfl rfl d_MD_craftClocks_53 ?_
      refine lv_iload_n hx hb d_MD_craftClocks_56 rfl (lv_at hl 1 rfl) ?_
      refine ag_Astage (v := .int (M.1 25 x1.toNatClampNeg)) hx hb hK hP  (by assumption) rfl d_MD_craftClocks_57 ?_
      refine lv_iconst (v := 1) hx hb d_MD_craftClocks_58 (by decide) ?_
      refine lv_icmp_ne (tgt := 80) hx hb d_MD_craftClocks_59 (by decide) (fun _ => ?_) (fun h_9 => absurd h_9 (h_1))
      refine lv_iconst (v := 0) hx hb d_MD_craftClocks_80 (by decide) ?_
      refine lv_istore_n (lv' := [(2, .int 0), (0, .ref (ad 0)), (1, .int x1)]) hx hb d_MD_craftClocks_81 rfl hl (by decide) rfl (fun ls hl => ?_)
      refine lv_iload_n hx hb d_MD_craftClocks_82 rfl (lv_at hl 0 rfl) ?_
      refine lv_if_ne (tgt := 87) hx hb d_MD_craftClocks_83 (by decide) (fun h_10 => absurd (by decide) h_10) (fun _ => ?_)
      exact fl_vret hx hb hr hlocks hP hS (by rw [hG]) d_MD_craftClocks_86
  ·
    have hG := hG.trans (if_pos h_1)
    refine lv_aload_n hx hb d_MD_craftClocks_10 rfl (lv_at hl 0 rfl) ?_
    refine gg_MD (k := 51) (v := .ref (ad 35)) hx hb hts hown hK hP  (hts _ (List.mem_cons_of_mem _ tw_832)) (by decide) rfl rfl d_MD_craftClocks_11 ?_
    refine lv_iload_n hx hb d_MD_craftClocks_14 rfl (lv_at hl 1 rfl) ?_
    refine lv_dup2_11 hx hb d_MD_craftClocks_15 rfl rfl ?_
    refine ag_AcraftIdle (v := .int (M.1 35 x1.toNatClampNeg)) hx hb hK hP  (by assumption) rfl d_MD_craftClocks_16 ?_
    refine lv_iconst (v := 1) hx hb d_MD_craftClocks_17 (by decide) ?_
    refine lv_isub hx hb d_MD_craftClocks_18 ?_
    refine sg_AcraftIdle hx hb hK hi hP hS  (by assumption) d_MD_craftClocks_19 (fun H locs hP hS => ?_)
    refine lv_aload_n hx hb d_MD_craftClocks_20 rfl (lv_at hl 0 rfl) ?_
    refine gg_MD (k := 51) (v := .ref (ad 35)) hx hb hts hown hK hP  (hts _ (List.mem_cons_of_mem _ tw_832)) (by decide) rfl rfl d_MD_craftClocks_21 ?_
    refine lv_iload_n hx hb d_MD_craftClocks_24 rfl (lv_at hl 1 rfl) ?_
    refine ag_AcraftIdle (v := .int ((fl_i M 35 x1.toNatClampNeg ((M.1 35 x1.toNatClampNeg) - 1)).1 35 x1.toNatClampNeg)) hx hb hK hP  (by assumption) rfl d_MD_craftClocks_25 ?_
    refine lv_if_ne (tgt := 42) hx hb d_MD_craftClocks_26 (by decide) (fun h_11 => ?_) (fun h_11 => ?_)
    ·
      have hG := hG.trans (if_neg h_11)
      refine lv_aload_n hx hb d_MD_craftClocks_42 rfl (lv_at hl 0 rfl) ?_
      refine gg_MD (k := 41) (v := .ref (ad 25)) hx hb hts hown hK hP  (hts _ (List.mem_cons_of_mem _ tw_822)) (by decide) rfl rfl d_MD_craftClocks_43 ?_
      refine lv_iload_n hx hb d_MD_craftClocks_46 rfl (lv_at hl 1 rfl) ?_
      refine ag_Astage (v := .int (M.1 25 x1.toNatClampNeg)) hx hb hK hP  (by assumption) rfl d_MD_craftClocks_47 ?_
      refine lv_iconst (v := 2) hx hb d_MD_craftClocks_48 (by decide) ?_
      refine lv_icmp_eq (tgt := 76) hx hb d_MD_craftClocks_49 (by decide) (fun h_12 => absurd h_12 (by rw [h_1]; decide)) (fun _ => ?_)
      refine lv_aload_n hx hb d_MD_craftClocks_52 rfl (lv_at hl 0 rfl) ?_
      refine gg_MD (k := 41) (v := .ref (ad 25)) hx hb hts hown hK hP  (hts _ (List.mem_cons_of_mem _ tw_822)) (by decide) rfl rfl d_MD_craftClocks_53 ?_
      refine lv_iload_n hx hb d_MD_craftClocks_56 rfl (lv_at hl 1 rfl) ?_
      refine ag_Astage (v := .int (M.1 25 x1.toNatClampNeg)) hx hb hK hP  (by assumption) rfl d_MD_craftClocks_57 ?_
      refine lv_iconst (v := 1) hx hb d_MD_craftClocks_58 (by decide) ?_
      refine lv_icmp_ne (tgt := 80) hx hb d_MD_craftClocks_59 (by decide) (fun h_13 => absurd (h_1) h_13) (fun _ => ?_)
      refine lv_aload_n hx hb d_MD_craftClocks_62 rfl (lv_at hl 0 rfl) ?_
      refine gg_MD (k := 43) (v := .ref (ad 27)) hx hb hts hown hK hP  (hts _ (List.mem_cons_of_mem _ tw_824)) (by decide) rfl rfl d_MD_craftClocks_63 ?_
      refine lv_iload_n hx hb d_MD_craftClocks_66 rfl (lv_at hl 1 rfl) ?_
      refine ag_Agot (v := .int (M.1 27 x1.toNatClampNeg)) hx hb hK hP  (by assumption) rfl d_MD_craftClocks_67 ?_
      refine lv_bipush (v := 17) hx hb d_MD_craftClocks_68 (by decide) ?_
      refine lj_ishr hx hb d_MD_craftClocks_70 ?_
      refine lv_iconst (v := 1) hx hb d_MD_craftClocks_71 (by decide) ?_
      refine lv_iand hx hb d_MD_craftClocks_72 ?_
      refine lv_if_eq (tgt := 80) hx hb d_MD_craftClocks_73 (by decide) (fun h_14 => ?_) (fun h_14 => ?_)
      ·
        have hG := hG.trans (if_pos h_14)
        refine lv_iconst (v := 0) hx hb d_MD_craftClocks_80 (by decide) ?_
        refine lv_istore_n (lv' := [(2, .int 0), (0, .ref (ad 0)), (1, .int x1)]) hx hb d_MD_craftClocks_81 rfl hl (by decide) rfl (fun ls hl => ?_)
        refine lv_iload_n hx hb d_MD_craftClocks_82 rfl (lv_at hl 0 rfl) ?_
        refine lv_if_ne (tgt := 87) hx hb d_MD_craftClocks_83 (by decide) (fun h_15 => absurd (by decide) h_15) (fun _ => ?_)
        exact fl_vret hx hb hr hlocks hP hS (by rw [hG]) d_MD_craftClocks_86
      ·
        have hG := hG.trans (if_neg h_14)
        refine lv_iconst (v := 1) hx hb d_MD_craftClocks_76 (by decide) ?_
        refine lv_goto (tgt := 81) hx hb d_MD_craftClocks_77 (by decide) ?_
        refine lv_istore_n (lv' := [(2, .int 1), (0, .ref (ad 0)), (1, .int x1)]) hx hb d_MD_craftClocks_81 rfl hl (by decide) rfl (fun ls hl => ?_)
        refine lv_iload_n hx hb d_MD_craftClocks_82 rfl (lv_at hl 0 rfl) ?_
        refine lv_if_ne (tgt := 87) hx hb d_MD_craftClocks_83 (by decide) (fun _ => ?_) (fun h_16 => absurd h_16 (by decide))
        refine lv_aload_n hx hb d_MD_craftClocks_87 rfl (lv_at hl 1 rfl) ?_
        refine gg_MD (k := 50) (v := .ref (ad 34)) hx hb hts hown hK hP  (hts _ (List.mem_cons_of_mem _ tw_831)) (by decide) rfl rfl d_MD_craftClocks_88 ?_
        refine lv_iload_n hx hb d_MD_craftClocks_91 rfl (lv_at hl 2 rfl) ?_
        refine lv_dup2_11 hx hb d_MD_craftClocks_92 rfl rfl ?_
        refine ag_AcraftClock (v := .int (M.1 34 x1.toNatClampNeg)) hx hb hK hP  (by assumption) rfl d_MD_craftClocks_93 ?_
        refine lv_iconst (v := 1) hx hb d_MD_craftClocks_94 (by decide) ?_
        refine lv_isub hx hb d_MD_craftClocks_95 ?_
        refine sg_AcraftClock hx hb hK hi hP hS  (by assumption) d_MD_craftClocks_96 (fun H locs hP hS => ?_)
        refine lv_aload_n hx hb d_MD_craftClocks_97 rfl (lv_at hl 1 rfl) ?_
        refine gg_MD (k := 50) (v := .ref (ad 34)) hx hb hts hown hK hP  (hts _ (List.mem_cons_of_mem _ tw_831)) (by decide) rfl rfl d_MD_craftClocks_98 ?_
        refine lv_iload_n hx hb d_MD_craftClocks_101 rfl (lv_at hl 2 rfl) ?_
        refine ag_AcraftClock (v := .int ((fl_i (fl_i M 35 x1.toNatClampNeg ((M.1 35 x1.toNatClampNeg) - 1)) 34 x1.toNatClampNeg ((M.1 34 x1.toNatClampNeg) - 1)).1 34 x1.toNatClampNeg)) hx hb hK hP  (by assumption) rfl d_MD_craftClocks_102 ?_
        refine lv_if_le (tgt := 107) hx hb d_MD_craftClocks_103 (by decide) (fun h_17 => ?_) (fun h_17 => ?_)
        ·
          have hG := hG.trans (if_pos h_17)
          refine lv_aload_n hx hb d_MD_craftClocks_107 rfl (lv_at hl 1 rfl) ?_
          refine gg_MD (k := 49) (v := .ref (ad 33)) hx hb hts hown hK hP  (hts _ (List.mem_cons_of_mem _ tw_830)) (by decide) rfl rfl d_MD_craftClocks_108 ?_
          refine lv_iload_n hx hb d_MD_craftClocks_111 rfl (lv_at hl 2 rfl) ?_
          refine ag_AcraftTries (v := .int (M.1 33 x1.toNatClampNeg)) hx hb hK hP  (by assumption) rfl d_MD_craftClocks_112 ?_
          refine lv_iconst (v := 4) hx hb d_MD_craftClocks_113 (by decide) ?_
          refine lv_icmp_ne (tgt := 142) hx hb d_MD_craftClocks_114 (by decide) (fun h_18 => ?_) (fun h_18 => ?_)
          ·
            have hG := hG.trans (if_neg h_18)
            refine lv_aload_n hx hb d_MD_craftClocks_142 rfl (lv_at hl 1 rfl) ?_
            refine gg_MD (k := 49) (v := .ref (ad 33)) hx hb hts hown hK hP  (hts _ (List.mem_cons_of_mem _ tw_830)) (by decide) rfl rfl d_MD_craftClocks_143 ?_
            refine lv_iload_n hx hb d_MD_craftClocks_146 rfl (lv_at hl 2 rfl) ?_
            refine lv_dup2_11 hx hb d_MD_craftClocks_147 rfl rfl ?_
            refine ag_AcraftTries (v := .int (M.1 33 x1.toNatClampNeg)) hx hb hK hP  (by assumption) rfl d_MD_craftClocks_148 ?_
            refine lv_iconst (v := 1) hx hb d_MD_craftClocks_149 (by decide) ?_
            refine lv_iadd hx hb d_MD_craftClocks_150 ?_
            refine sg_AcraftTries hx hb hK hi hP hS  (by assumption) d_MD_craftClocks_151 (fun H locs hP hS => ?_)
            refine lv_aload_n hx hb d_MD_craftClocks_152 rfl (lv_at hl 1 rfl) ?_
            refine gg_MD (k := 50) (v := .ref (ad 34)) hx hb hts hown hK hP  (hts _ (List.mem_cons_of_mem _ tw_831)) (by decide) rfl rfl d_MD_craftClocks_153 ?_
            refine lv_iload_n hx hb d_MD_craftClocks_156 rfl (lv_at hl 2 rfl) ?_
            refine lv_iconst (v := 3) hx hb d_MD_craftClocks_157 (by decide) ?_
            refine lv_aload_n hx hb d_MD_craftClocks_158 rfl (lv_at hl 1 rfl) ?_
            refine gg_MD (k := 1) (v := .int (M.1 0 1)) hx hb hts hown hK hP  (hts _ (List.mem_cons_of_mem _ tw_782)) (by decide) rfl rfl d_MD_craftClocks_159 ?_
            refine lv_imul hx hb d_MD_craftClocks_162 ?_
            refine sg_AcraftClock hx hb hK hi hP hS  (by assumption) d_MD_craftClocks_163 (fun H locs hP hS => ?_)
            refine lv_aload_n hx hb d_MD_craftClocks_164 rfl (lv_at hl 1 rfl) ?_
            refine gg_MD (k := 53) (v := .ref (ad 37)) hx hb hts hown hK hP  (hts _ (List.mem_cons_of_mem _ tw_834)) (by decide) rfl rfl d_MD_craftClocks_165 ?_
            refine lv_iload_n hx hb d_MD_craftClocks_168 rfl (lv_at hl 2 rfl) ?_
            refine lv_aload_n hx hb d_MD_craftClocks_169 rfl (lv_at hl 1 rfl) ?_
            refine gg_MD (k := 41) (v := .ref (ad 25)) hx hb hts hown hK hP  (hts _ (List.mem_cons_of_mem _ tw_822)) (by decide) rfl rfl d_MD_craftClocks_170 ?_
            refine lv_iload_n hx hb d_MD_craftClocks_173 rfl (lv_at hl 2 rfl) ?_
            refine ag_Astage (v := .int (M.1 25 x1.toNatClampNeg)) hx hb hK hP  (by assumption) rfl d_MD_craftClocks_174 ?_
            refine lv_iconst (v := 1) hx hb d_MD_craftClocks_175 (by decide) ?_
            refine lv_icmp_ne (tgt := 183) hx hb d_MD_craftClocks_176 (by decide) (fun h_19 => absurd (h_1) h_19) (fun _ => ?_)
            refine lv_iconst (v := 1) hx hb d_MD_craftClocks_179 (by decide) ?_
            refine lv_goto (tgt := 184) hx hb d_MD_craftClocks_180 (by decide) ?_
            refine sg_AoweLack hx hb hK hi hP hS  (rfl) (by assumption) d_MD_craftClocks_184 (fun H locs hP hS => ?_)
            refine lv_aload_n hx hb d_MD_craftClocks_185 rfl (lv_at hl 1 rfl) ?_
            refine gg_MD (k := 54) (v := .ref (ad 38)) hx hb hts hown hK hP  (hts _ (List.mem_cons_of_mem _ tw_835)) (by decide) rfl rfl d_MD_craftClocks_186 ?_
            refine lv_iload_n hx hb d_MD_craftClocks_189 rfl (lv_at hl 2 rfl) ?_
            refine lv_aload_n hx hb d_MD_craftClocks_190 rfl (lv_at hl 1 rfl) ?_
            refine gg_MD (k := 41) (v := .ref (ad 25)) hx hb hts hown hK hP  (hts _ (List.mem_cons_of_mem _ tw_822)) (by decide) rfl rfl d_MD_craftClocks_191 ?_
            refine lv_iload_n hx hb d_MD_craftClocks_194 rfl (lv_at hl 2 rfl) ?_
            refine ag_Astage (v := .int (M.1 25 x1.toNatClampNeg)) hx hb hK hP  (by assumption) rfl d_MD_craftClocks_195 ?_
            refine lv_iconst (v := 2) hx hb d_MD_craftClocks_196 (by decide) ?_
            refine lv_icmp_ne (tgt := 204) hx hb d_MD_craftClocks_197 (by decide) (fun _ => ?_) (fun h_20 => absurd h_20 (by rw [h_1]; decide))
            refine lv_iconst (v := 0) hx hb d_MD_craftClocks_204 (by decide) ?_
            refine sg_AoweFinished hx hb hK hi hP hS  (rfl) (by assumption) d_MD_craftClocks_205 (fun H locs hP hS => ?_)
            exact fl_vret hx hb hr hlocks hP hS (by rw [hG]) d_MD_craftClocks_206
          ·
            have hG := hG.trans (if_pos h_18)
            refine lv_aload_n hx hb d_MD_craftClocks_117 rfl (lv_at hl 1 rfl) ?_
            refine gg_MD (k := 41) (v := .ref (ad 25)) hx hb hts hown hK hP  (hts _ (List.mem_cons_of_mem _ tw_822)) (by decide) rfl rfl d_MD_craftClocks_118 ?_
            refine lv_iload_n hx hb d_MD_craftClocks_121 rfl (lv_at hl 2 rfl) ?_
            refine ag_Astage (v := .int (M.1 25 x1.toNatClampNeg)) hx hb hK hP  (by assumption) rfl d_MD_craftClocks_122 ?_
            refine lv_iconst (v := 1) hx hb d_MD_craftClocks_123 (by decide) ?_
            refine lv_icmp_ne (tgt := 136) hx hb d_MD_craftClocks_124 (by decide) (fun h_21 => absurd (h_1) h_21) (fun _ => ?_)
            refine lv_aload_n hx hb d_MD_craftClocks_127 rfl (lv_at hl 1 rfl) ?_
            refine lv_iload_n hx hb d_MD_craftClocks_128 rfl (lv_at hl 2 rfl) ?_
            refine lv_iconst (v := 3) hx hb d_MD_craftClocks_129 (by decide) ?_
            refine fl_callv (va_runV (As := [.int x1, .int 3]) (rest := []) ⟨hx, hb, hml, hown, hts⟩ (c_MD_finish l hi (fl_i (fl_i M 35 x1.toNatClampNeg ((M.1 35 x1.toNatClampNeg) - 1)) 34 x1.toNatClampNeg ((M.1 34 x1.toNatClampNeg) - 1)) x1 3 (by assumption)) (kv_MD_finish hts (hts _ (List.mem_cons_of_mem _ tw_1045)) ⟨Nat.le_of_ble_eq_true rfl, Nat.le_of_ble_eq_true rfl⟩) (fl_preV hK hSt hN hS hP (by decide) (kg_MD) rfl) rfl rfl hl.1 rfl (lv_room (Nat.le_of_ble_eq_true rfl)) d_MD_craftClocks_130 ⟨Nat.zero_le _, Nat.zero_le _⟩) hS (fun H locs hP hS => ?_)
            refine lv_goto (tgt := 141) hx hb d_MD_craftClocks_133 (by decide) ?_
            exact fl_vret hx hb hr hlocks hP hS (by rw [hG]) d_MD_craftClocks_141
        ·
          have hG := hG.trans (if_neg h_17)
          exact fl_vret hx hb hr hlocks hP hS (by rw [hG]) d_MD_craftClocks_106
    ·
      have hG := hG.trans (if_pos h_11)
      refine lv_aload_n hx hb d_MD_craftClocks_29 rfl (lv_at hl 0 rfl) ?_
      refine gg_MD (k := 42) (v := .ref (ad 26)) hx hb hts hown hK hP  (hts _ (List.mem_cons_of_mem _ tw_823)) (by decide) rfl rfl d_MD_craftClocks_30 ?_
      refine lv_iload_n hx hb d_MD_craftClocks_33 rfl (lv_at hl 1 rfl) ?_
      refine lv_iconst (v := 4) hx hb d_MD_craftClocks_34 (by decide) ?_
      refine sg_Acondition hx hb hK hi hP hS  (by assumption) d_MD_craftClocks_35 (fun H locs hP hS => ?_)
      refine lv_aload_n hx hb d_MD_craftClocks_36 rfl (lv_at hl 0 rfl) ?_
      refine lv_iload_n hx hb d_MD_craftClocks_37 rfl (lv_at hl 1 rfl) ?_
      refine fl_callv (va_runV (As := [.int x1]) (rest := []) ⟨hx, hb, hml, hown, hts⟩ (c_MD_close l hi (fl_i (fl_i M 35 x1.toNatClampNeg ((M.1 35 x1.toNatClampNeg) - 1)) 26 x1.toNatClampNeg 4) x1 (by assumption)) (kv_MD_close hts (hts _ (List.mem_cons_of_mem _ tw_1061)) ⟨Nat.le_of_ble_eq_true rfl, Nat.le_of_ble_eq_true rfl⟩) (fl_preV hK hSt hN hS hP (by decide) (kg_MD) rfl) rfl rfl hl.1 rfl (lv_room (Nat.le_of_ble_eq_true rfl)) d_MD_craftClocks_38 ⟨Nat.zero_le _, Nat.zero_le _⟩) hS (fun H locs hP hS => ?_)
      exact fl_vret hx hb hr hlocks hP hS (by rw [hG]) d_MD_craftClocks_41
theorem hd_MD_craftClocks : y_MD_craftClocks.cls ≠ "java/lang/invoke/MethodHandle" ∧ y_MD_craftClocks.cls ≠ "java/lang/invoke/VarHandle" ∧ (parseMethodDescriptor y_MD_craftClocks.desc).map (fun d => d.parameters.length) = some 1 := by decide +kernel
theorem kv_MD_craftClocks {R : Room} {s : State} {args : Array Value} {c0 : Cond} {own : String} {index : Nat} (hts : ∀ w ∈ c0 :: gw, w.before args s = true) (hl : (Cond.methodLink own index y_MD_craftClocks).before args s = true) (hR : 1 + 1 ≤ R.frames ∧ 8 + (3 + 11) + 22 ≤ R.locals) : CallW R s args own "FarLinkModel" index y_MD_craftClocks b_MD_craftClocks 3 none w_MD_craftClocks ({ frames := 1, cells := 0, slots := 0, locals := 22 } : Room) 0 0 1 := ⟨callB_of 1 hts (gw_in tw_1068) rfl rfl rfl (hts _ (List.mem_cons_of_mem _ tw_10)) hl hd_MD_craftClocks hR, hts _ (List.mem_cons_of_mem _ tw_1067), hts _ (List.mem_cons_of_mem _ ps_MD_craftClocks)⟩
def g_MD_groundClocks (M : fl_M) (x1 : Int32) : fl_M :=
  if (M.1 13 x1.toNatClampNeg) = 0 then (if (M.1 18 x1.toNatClampNeg) = 0 then (if (M.1 17 x1.toNatClampNeg) = 0 then (if (M.1 19 x1.toNatClampNeg) = 0 then (M) else (if ((fl_i M 21 x1.toNatClampNeg ((M.1 21 x1.toNatClampNeg) - 1)).1 21 x1.toNatClampNeg) = 0 then (if (M.1 20 x1.toNatClampNeg) = 4 then ((g_MD_end (fl_i M 21 x1.toNatClampNeg ((M.1 21 x1.toNatClampNeg) - 1)) x1 3)) else ((g_MD_makeEndDue (fl_i (fl_i M 21 x1.toNatClampNeg ((M.1 21 x1.toNatClampNeg) - 1)) 20 x1.toNatClampNeg ((M.1 20 x1.toNatClampNeg) + 1)) x1))) else ((fl_i M 21 x1.toNatClampNeg ((M.1 21 x1.toNatClampNeg) - 1))))) else (if ((fl_i M 22 x1.toNatClampNeg ((M.1 22 x1.toNatClampNeg) - 1)).1 22 x1.toNatClampNeg) = 0 then ((g_MD_end (fl_i M 22 x1.toNatClampNeg ((M.1 22 x1.toNatClampNeg) - 1)) x1 4)) else ((fl_i M 22 x1.toNatClampNeg ((M.1 22 x1.toNatClampNeg) - 1))))) else (M)) else (M)
set_option maxHeartbeats 400000 in
set_option maxRecDepth 100000 in
theorem c_MD_groundClocks (l : Launch) {D : va_G} {ad : Nat → Nat} {cA : Nat → ClassId} (hi : fl_inj ad 41) (M : fl_M) (x1 : Int32) (ht : vp_in x1 16) : Met l y_MD_groundClocks w_MD_groundClocks ({ frames := 1, cells := 0, slots := 0, locals := 22 } : Room) (va_Pc [.ref (ad 0), .int x1] (fl_B D cls (yt cA) ([] : fl_L) ([] : fl_FN) ([] : fl_MN) ad (yc ad cA) 41 M)) (va_Qv (fun M' => M' = (g_MD_groundClocks M x1)) (fl_E D cls ad (yc ad cA) 41) (fl_A ad 41)) 0 0 (fl_A ad 41) := by
  refine Met.ofW (cc := b_MD_groundClocks) (maxL := 2) (ret := none) (by decide) rfl ?_
  intro p e s m args below meth c s₁ B hml hv
  obtain ⟨rfl, hP, hK, hSt, hN⟩ := hv
  have hx := B.exec
  have hb := B.bytes
  have hr := B.returns
  have hts := atoms_spec (ws := w_MD_groundClocks) B.pre
  have hown : s.vm.findClass "FarLinkModel" = some m.cls := findClass_of_methodNamed B.named
  have hlocks := B.notSynchronized
  have hS : va_S (fl_A ad 41) s.heap s.heap [] := va_S.rf
  have hl := lv_entry ([.ref (ad 0), .int x1]) (n := 2) (Nat.le_of_ble_eq_true rfl)
  rw [lg_entry_eq]
  generalize (lg_sl ([.ref (ad 0), .int x1]) ++ List.replicate (2 - (lg_sl ([.ref (ad 0), .int x1])).length) Slot.unset).toArray = ls at hl ⊢
  have hl : lv_has ls 2 [(0, .ref (ad 0)), (1, .int x1)] := hl
  have hG := g_MD_groundClocks.eq_1 M x1
  refine lv_aload_n hx hb d_MD_groundClocks_0 rfl (lv_at hl 0 rfl) ?_
  refine gg_MD (k := 18) (v := .ref (ad 13)) hx hb hts hown hK hP  (hts _ (List.mem_cons_of_mem _ tw_799)) (by decide) rfl rfl d_MD_groundClocks_1 ?_
  refine lv_iload_n hx hb d_MD_groundClocks_4 rfl (lv_at hl 1 rfl) ?_
  refine ag_Aended (v := .int (M.1 13 x1.toNatClampNeg)) hx hb hK hP  (by assumption) rfl d_MD_groundClocks_5 ?_
  refine lv_if_ne (tgt := 18) hx hb d_MD_groundClocks_6 (by decide) (fun h_1 => ?_) (fun h_1 => ?_)
  ·
    have hG := hG.trans (if_neg h_1)
    exact fl_vret hx hb hr hlocks hP hS (by rw [hG]) d_MD_groundClocks_18
  ·
    have hG := hG.trans (if_pos h_1)
    refine lv_aload_n hx hb d_MD_groundClocks_9 rfl (lv_at hl 0 rfl) ?_
    refine gg_MD (k := 23) (v := .ref (ad 18)) hx hb hts hown hK hP  (hts _ (List.mem_cons_of_mem _ tw_804)) (by decide) rfl rfl d_MD_groundClocks_10 ?_
    refine lv_iload_n hx hb d_MD_groundClocks_13 rfl (lv_at hl 1 rfl) ?_
    refine ag_Asuspended (v := .int (M.1 18 x1.toNatClampNeg)) hx hb hK hP  (by assumption) rfl d_MD_groundClocks_14 ?_
    refine lv_if_eq (tgt := 19) hx hb d_MD_groundClocks_15 (by decide) (fun h_2 => ?_) (fun h_2 => ?_)
    ·
      have hG := hG.trans (if_pos h_2)
      refine lv_aload_n hx hb d_MD_groundClocks_19 rfl (lv_at hl 0 rfl) ?_
      refine gg_MD (k := 22) (v := .ref (ad 17)) hx hb hts hown hK hP  (hts _ (List.mem_cons_of_mem _ tw_803)) (by decide) rfl rfl d_MD_groundClocks_20 ?_
      refine lv_iload_n hx hb d_MD_groundClocks_23 rfl (lv_at hl 1 rfl) ?_
      refine ag_Aanswered (v := .int (M.1 17 x1.toNatClampNeg)) hx hb hK hP  (by assumption) rfl d_MD_groundClocks_24 ?_
      refine lv_if_eq (tgt := 56) hx hb d_MD_groundClocks_25 (by decide) (fun h_3 => ?_) (fun h_3 => ?_)
      ·
        have hG := hG.trans (if_pos h_3)
        refine lv_aload_n hx hb d_MD_groundClocks_56 rfl (lv_at hl 0 rfl) ?_
        refine gg_MD (k := 24) (v := .ref (ad 19)) hx hb hts hown hK hP  (hts _ (List.mem_cons_of_mem _ tw_805)) (by decide) rfl rfl d_MD_groundClocks_57 ?_
        refine lv_iload_n hx hb d_MD_groundClocks_60 rfl (lv_at hl 1 rfl) ?_
        refine ag_AendSent (v := .int (M.1 19 x1.toNatClampNeg)) hx hb hK hP  (by assumption) rfl d_MD_groundClocks_61 ?_
        refine lv_if_eq (tgt := 127) hx hb d_MD_groundClocks_62 (by decide) (fun h_4 => ?_) (fun h_4 => ?_)
        ·
          have hG := hG.trans (if_pos h_4)
          exact fl_vret hx hb hr hlocks hP hS (by rw [hG]) d_MD_groundClocks_127
        ·
          have hG := hG.trans (if_neg h_4)
          refine lv_aload_n hx hb d_MD_groundClocks_65 rfl (lv_at hl 0 rfl) ?_
          refine gg_MD (k := 26) (v := .ref (ad 21)) hx hb hts hown hK hP  (hts _ (List.mem_cons_of_mem _ tw_807)) (by decide) rfl rfl d_MD_groundClocks_66 ?_
          refine lv_iload_n hx hb d_MD_groundClocks_69 rfl (lv_at hl 1 rfl) ?_
          refine lv_dup2_11 hx hb d_MD_groundClocks_70 rfl rfl ?_
          refine ag_Aclock (v := .int (M.1 21 x1.toNatClampNeg)) hx hb hK hP  (by assumption) rfl d_MD_groundClocks_71 ?_
          refine lv_iconst (v := 1) hx hb d_MD_groundClocks_72 (by decide) ?_
          refine lv_isub hx hb d_MD_groundClocks_73 ?_
          refine sg_Aclock hx hb hK hi hP hS  (by assumption) d_MD_groundClocks_74 (fun H locs hP hS => ?_)
          refine lv_aload_n hx hb d_MD_groundClocks_75 rfl (lv_at hl 0 rfl) ?_
          refine gg_MD (k := 26) (v := .ref (ad 21)) hx hb hts hown hK hP  (hts _ (List.mem_cons_of_mem _ tw_807)) (by decide) rfl rfl d_MD_groundClocks_76 ?_
          refine lv_iload_n hx hb d_MD_groundClocks_79 rfl (lv_at hl 1 rfl) ?_
          refine ag_Aclock (v := .int ((fl_i M 21 x1.toNatClampNeg ((M.1 21 x1.toNatClampNeg) - 1)).1 21 x1.toNatClampNeg)) hx hb hK hP  (by assumption) rfl d_MD_groundClocks_80 ?_
          refine lv_if_ne (tgt := 103) hx hb d_MD_groundClocks_81 (by decide) (fun h_5 => ?_) (fun h_5 => ?_)
          ·
            have hG := hG.trans (if_neg h_5)
            refine lv_aload_n hx hb d_MD_groundClocks_103 rfl (lv_at hl 0 rfl) ?_
            refine gg_MD (k := 26) (v := .ref (ad 21)) hx hb hts hown hK hP  (hts _ (List.mem_cons_of_mem _ tw_807)) (by decide) rfl rfl d_MD_groundClocks_104 ?_
            refine lv_iload_n hx hb d_MD_groundClocks_107 rfl (lv_at hl 1 rfl) ?_
            refine ag_Aclock (v := .int ((fl_i M 21 x1.toNatClampNeg ((M.1 21 x1.toNatClampNeg) - 1)).1 21 x1.toNatClampNeg)) hx hb hK hP  (by assumption) rfl d_MD_groundClocks_108 ?_
            refine lv_if_ne (tgt := 127) hx hb d_MD_groundClocks_109 (by decide) (fun _ => ?_) (fun h_6 => absurd h_6 (h_5))
            exact fl_vret hx hb hr hlocks hP hS (by rw [hG]) d_MD_groundClocks_127
          ·
            have hG := hG.trans (if_pos h_5)
            refine lv_aload_n hx hb d_MD_groundClocks_84 rfl (lv_at hl 0 rfl) ?_
            refine gg_MD (k := 25) (v := .ref (ad 20)) hx hb hts hown hK hP  (hts _ (List.mem_cons_of_mem _ tw_806)) (by decide) rfl rfl d_MD_groundClocks_85 ?_
            refine lv_iload_n hx hb d_MD_groundClocks_88 rfl (lv_at hl 1 rfl) ?_
            refine ag_Atries (v := .int (M.1 20 x1.toNatClampNeg)) hx hb hK hP  (by assumption) rfl d_MD_groundClocks_89 ?_
            refine lv_iconst (v := 4) hx hb d_MD_groundClocks_90 (by decide) ?_
            refine lv_icmp_ne (tgt := 103) hx hb d_MD_groundClocks_91 (by decide) (fun h_7 => ?_) (fun h_7 => ?_)
            ·
              have hG := hG.trans (if_neg h_7)
              refine lv_aload_n hx hb d_MD_groundClocks_103 rfl (lv_at hl 0 rfl) ?_
              refine gg_MD (k := 26) (v := .ref (ad 21)) hx hb hts hown hK hP  (hts _ (List.mem_cons_of_mem _ tw_807)) (by decide) rfl rfl d_MD_groundClocks_104 ?_
              refine lv_iload_n hx hb d_MD_groundClocks_107 rfl (lv_at hl 1 rfl) ?_
              refine ag_Aclock (v := .int ((fl_i M 21 x1.toNatClampNeg ((M.1 21 x1.toNatClampNeg) - 1)).1 21 x1.toNatClampNeg)) hx hb hK hP  (by assumption) rfl d_MD_groundClocks_108 ?_
              refine lv_if_ne (tgt := 127) hx hb d_MD_groundClocks_109 (by decide) (fun h_8 => absurd (h_5) h_8) (fun _ => ?_)
              refine lv_aload_n hx hb d_MD_groundClocks_112 rfl (lv_at hl 0 rfl) ?_
              refine gg_MD (k := 25) (v := .ref (ad 20)) hx hb hts hown hK hP  (hts _ (List.mem_cons_of_mem _ tw_806)) (by decide) rfl rfl d_MD_groundClocks_113 ?_
              refine lv_iload_n hx hb d_MD_groundClocks_116 rfl (lv_at hl 1 rfl) ?_
              refine lv_dup2_11 hx hb d_MD_groundClocks_117 rfl rfl ?_
              refine ag_Atries (v := .int (M.1 20 x1.toNatClampNeg)) hx hb hK hP  (by assumption) rfl d_MD_groundClocks_118 ?_
              refine lv_iconst (v := 1) hx hb d_MD_groundClocks_119 (by decide) ?_
              refine lv_iadd hx hb d_MD_groundClocks_120 ?_
              refine sg_Atries hx hb hK hi hP hS  (by assumption) d_MD_groundClocks_121 (fun H locs hP hS => ?_)
              refine lv_aload_n hx hb d_MD_groundClocks_122 rfl (lv_at hl 0 rfl) ?_
              refine lv_iload_n hx hb d_MD_groundClocks_123 rfl (lv_at hl 1 rfl) ?_
              refine fl_callv (va_runV (As := [.int x1]) (rest := []) ⟨hx, hb, hml, hown, hts⟩ (c_MD_makeEndDue l hi (fl_i (fl_i M 21 x1.toNatClampNeg ((M.1 21 x1.toNatClampNeg) - 1)) 20 x1.toNatClampNeg ((M.1 20 x1.toNatClampNeg) + 1)) x1 (by assumption)) (kv_MD_makeEndDue hts (hts _ (List.mem_cons_of_mem _ tw_1007)) ⟨Nat.le_of_ble_eq_true rfl, Nat.le_of_ble_eq_true rfl⟩) (fl_preV hK hSt hN hS hP (by decide) (kg_MD) rfl) rfl rfl hl.1 rfl (lv_room (Nat.le_of_ble_eq_true rfl)) d_MD_groundClocks_124 ⟨Nat.zero_le _, Nat.zero_le _⟩) hS (fun H locs hP hS => ?_)
              exact fl_vret hx hb hr hlocks hP hS (by rw [hG]) d_MD_groundClocks_127
            ·
              have hG := hG.trans (if_pos h_7)
              refine lv_aload_n hx hb d_MD_groundClocks_94 rfl (lv_at hl 0 rfl) ?_
              refine lv_iload_n hx hb d_MD_groundClocks_95 rfl (lv_at hl 1 rfl) ?_
              refine lv_iconst (v := 3) hx hb d_MD_groundClocks_96 (by decide) ?_
              refine fl_callv (va_runV (As := [.int x1, .int 3]) (rest := []) ⟨hx, hb, hml, hown, hts⟩ (c_MD_end l hi (fl_i M 21 x1.toNatClampNeg ((M.1 21 x1.toNatClampNeg) - 1)) x1 3 (by assumption)) (kv_MD_end hts (hts _ (List.mem_cons_of_mem _ tw_1102)) ⟨Nat.le_of_ble_eq_true rfl, Nat.le_of_ble_eq_true rfl⟩) (fl_preV hK hSt hN hS hP (by decide) (kg_MD) rfl) rfl rfl hl.1 rfl (lv_room (Nat.le_of_ble_eq_true rfl)) d_MD_groundClocks_97 ⟨Nat.zero_le _, Nat.zero_le _⟩) hS (fun H locs hP hS => ?_)
              refine lv_goto (tgt := 127) hx hb d_MD_groundClocks_100 (by decide) ?_
              exact fl_vret hx hb hr hlocks hP hS (by rw [hG]) d_MD_groundClocks_127
      ·
        have hG := hG.trans (if_neg h_3)
        refine lv_aload_n hx hb d_MD_groundClocks_28 rfl (lv_at hl 0 rfl) ?_
        refine gg_MD (k := 27) (v := .ref (ad 22)) hx hb hts hown hK hP  (hts _ (List.mem_cons_of_mem _ tw_808)) (by decide) rfl rfl d_MD_groundClocks_29 ?_
        refine lv_iload_n hx hb d_MD_groundClocks_32 rfl (lv_at hl 1 rfl) ?_
        refine lv_dup2_11 hx hb d_MD_groundClocks_33 rfl rfl ?_
        refine ag_Aidle (v := .int (M.1 22 x1.toNatClampNeg)) hx hb hK hP  (by assumption) rfl d_MD_groundClocks_34 ?_
        refine lv_iconst (v := 1) hx hb d_MD_groundClocks_35 (by decide) ?_
        refine lv_isub hx hb d_MD_groundClocks_36 ?_
        refine sg_Aidle hx hb hK hi hP hS  (by assumption) d_MD_groundClocks_37 (fun H locs hP hS => ?_)
        refine lv_aload_n hx hb d_MD_groundClocks_38 rfl (lv_at hl 0 rfl) ?_
        refine gg_MD (k := 27) (v := .ref (ad 22)) hx hb hts hown hK hP  (hts _ (List.mem_cons_of_mem _ tw_808)) (by decide) rfl rfl d_MD_groundClocks_39 ?_
        refine lv_iload_n hx hb d_MD_groundClocks_42 rfl (lv_at hl 1 rfl) ?_
        refine ag_Aidle (v := .int ((fl_i M 22 x1.toNatClampNeg ((M.1 22 x1.toNatClampNeg) - 1)).1 22 x1.toNatClampNeg)) hx hb hK hP  (by assumption) rfl d_MD_groundClocks_43 ?_
        refine lv_if_ne (tgt := 127) hx hb d_MD_groundClocks_44 (by decide) (fun h_9 => ?_) (fun h_9 => ?_)
        ·
          have hG := hG.trans (if_neg h_9)
          exact fl_vret hx hb hr hlocks hP hS (by rw [hG]) d_MD_groundClocks_127
        ·
          have hG := hG.trans (if_pos h_9)
          refine lv_aload_n hx hb d_MD_groundClocks_47 rfl (lv_at hl 0 rfl) ?_
          refine lv_iload_n hx hb d_MD_groundClocks_48 rfl (lv_at hl 1 rfl) ?_
          refine lv_iconst (v := 4) hx hb d_MD_groundClocks_49 (by decide) ?_
          refine fl_callv (va_runV (As := [.int x1, .int 4]) (rest := []) ⟨hx, hb, hml, hown, hts⟩ (c_MD_end l hi (fl_i M 22 x1.toNatClampNeg ((M.1 22 x1.toNatClampNeg) - 1)) x1 4 (by assumption)) (kv_MD_end hts (hts _ (List.mem_cons_of_mem _ tw_1102)) ⟨Nat.le_of_ble_eq_true rfl, Nat.le_of_ble_eq_true rfl⟩) (fl_preV hK hSt hN hS hP (by decide) (kg_MD) rfl) rfl rfl hl.1 rfl (lv_room (Nat.le_of_ble_eq_true rfl)) d_MD_groundClocks_50 ⟨Nat.zero_le _, Nat.zero_le _⟩) hS (fun H locs hP hS => ?_)
          refine lv_goto (tgt := 127) hx hb d_MD_groundClocks_53 (by decide) ?_
          exact fl_vret hx hb hr hlocks hP hS (by rw [hG]) d_MD_groundClocks_127
    ·
      have hG := hG.trans (if_neg h_2)
      exact fl_vret hx hb hr hlocks hP hS (by rw [hG]) d_MD_groundClocks_18
theorem hd_MD_groundClocks : y_MD_groundClocks.cls ≠ "java/lang/invoke/MethodHandle" ∧ y_MD_groundClocks.cls ≠ "java/lang/invoke/VarHandle" ∧ (parseMethodDescriptor y_MD_groundClocks.desc).map (fun d => d.parameters.length) = some 1 := by decide +kernel
theorem kv_MD_groundClocks {R : Room} {s : State} {args : Array Value} {c0 : Cond} {own : String} {index : Nat} (hts : ∀ w ∈ c0 :: gw, w.before args s = true) (hl : (Cond.methodLink own index y_MD_groundClocks).before args s = true) (hR : 1 + 1 ≤ R.frames ∧ 8 + (2 + 11) + 22 ≤ R.locals) : CallW R s args own "FarLinkModel" index y_MD_groundClocks b_MD_groundClocks 2 none w_MD_groundClocks ({ frames := 1, cells := 0, slots := 0, locals := 22 } : Room) 0 0 1 := ⟨callB_of 1 hts (gw_in tw_1113) rfl rfl rfl (hts _ (List.mem_cons_of_mem _ tw_10)) hl hd_MD_groundClocks hR, hts _ (List.mem_cons_of_mem _ tw_1112), hts _ (List.mem_cons_of_mem _ ps_MD_groundClocks)⟩
def g_MD_groundPdu (M : fl_M) (x1 : Int64) : fl_M :=
  if (((j_lshr x1 8) &&& 15).toInt32) < 1 then (M) else (if 3 < (((j_lshr x1 8) &&& 15).toInt32) then (M) else (if (((j_lshr x1 12) &&& 15).toInt32) < (M.1 0 13) then (if (((j_lshr x1 8) &&& 15).toInt32) = 1 then (if (M.1 13 ((((j_lshr x1 12) &&& 15).toInt32).toNatClampNeg)) = 0 then ((fl_i (fl_i M 22 ((((j_lshr x1 12) &&& 15).toInt32).toNatClampNeg) (12 * (M.1 0 1))) 17 ((((j_lshr x1 12) &&& 15).toInt32).toNatClampNeg) 1)) else ((fl_i M 22 ((((j_lshr x1 12) &&& 15).toInt32).toNatClampNeg) (12 * (M.1 0 1))))) else (if (((j_lshr x1 8) &&& 15).toInt32) = 2 then (if (M.1 13 ((((j_lshr x1 12) &&& 15).toInt32).toNatClampNeg)) = 0 then (if (M.1 16 ((((j_lshr x1 12) &&& 15).toInt32).toNatClampNeg)) = 0 then ((fl_i (fl_i M 22 ((((j_lshr x1 12) &&& 15).toInt32).toNatClampNeg) (12 * (M.1 0 1))) 15 ((((j_lshr x1 12) &&& 15).toInt32).toNatClampNeg) ((M.1 15 ((((j_lshr x1 12) &&& 15).toInt32).toNatClampNeg)) ||| ((((j_lshr x1 16) &&& 16777215).toInt32) &&& (((1 <<< ((M.1 10 ((((j_lshr x1 12) &&& 15).toInt32).toNatClampNeg)) &&& 31)) - 1) ||| 65536))))) else ((fl_i M 22 ((((j_lshr x1 12) &&& 15).toInt32).toNatClampNeg) (12 * (M.1 0 1))))) else ((fl_i M 22 ((((j_lshr x1 12) &&& 15).toInt32).toNatClampNeg) (12 * (M.1 0 1))))) else (if (((j_lshr x1 8) &&& 15).toInt32) = 3 then (if (M.1 13 ((((j_lshr x1 12) &&& 15).toInt32).toNatClampNeg)) = 0 then ((g_MD_end (fl_i (fl_i M 22 ((((j_lshr x1 12) &&& 15).toInt32).toNatClampNeg) (12 * (M.1 0 1))) 15 ((((j_lshr x1 12) &&& 15).toInt32).toNatClampNeg) ((M.1 15 ((((j_lshr x1 12) &&& 15).toInt32).toNatClampNeg)) ||| 262144)) (((j_lshr x1 12) &&& 15).toInt32) (((j_lshr x1 16) &&& 16777215).toInt32))) else ((fl_i (fl_i M 22 ((((j_lshr x1 12) &&& 15).toInt32).toNatClampNeg) (12 * (M.1 0 1))) 15 ((((j_lshr x1 12) &&& 15).toInt32).toNatClampNeg) ((M.1 15 ((((j_lshr x1 12) &&& 15).toInt32).toNatClampNeg)) ||| 262144)))) else ((fl_i M 22 ((((j_lshr x1 12) &&& 15).toInt32).toNatClampNeg) (12 * (M.1 0 1))))))) else (M)))
set_option maxHeartbeats 400000 in
set_option maxRecDepth 100000 in
theorem c_MD_groundPdu (l : Launch) {D : va_G} {ad : Nat → Nat} {cA : Nat → ClassId} (hi : fl_inj ad 41) (M : fl_M) (x1 : Int64) : Met l y_MD_groundPdu w_MD_groundPdu ({ frames := 1, cells := 0, slots := 0, locals := 22 } : Room) (va_Pc [.ref (ad 0), .long x1] (fl_B D cls (yt cA) ([] : fl_L) ([] : fl_FN) ([] : fl_MN) ad (yc ad cA) 41 M)) (va_Qv (fun M' => M' = (g_MD_groundPdu M x1)) (fl_E D cls ad (yc ad cA) 41) (fl_A ad 41)) 0 0 (fl_A ad 41) := by
  refine Met.ofW (cc := b_MD_groundPdu) (maxL := 7) (ret := none) (by decide) rfl ?_
  intro p e s m args below meth c s₁ B hml hv
  obtain ⟨rfl, hP, hK, hSt, hN⟩ := hv
  have hx := B.exec
  have hb := B.bytes
  have hr := B.returns
  have hts := atoms_spec (ws := w_MD_groundPdu) B.pre
  have hown : s.vm.findClass "FarLinkModel" = some m.cls := findClass_of_methodNamed B.named
  have hlocks := B.notSynchronized
  have hS : va_S (fl_A ad 41) s.heap s.heap [] := va_S.rf
  have hl := lv_entry ([.ref (ad 0), .long x1]) (n := 7) (Nat.le_of_ble_eq_true rfl)
  rw [lg_entry_eq]
  generalize (lg_sl ([.ref (ad 0), .long x1]) ++ List.replicate (7 - (lg_sl ([.ref (ad 0), .long x1])).length) Slot.unset).toArray = ls at hl ⊢
  have hl : lv_has ls 7 [(0, .ref (ad 0)), (1, .long x1)] := hl
  have hG := g_MD_groundPdu.eq_1 M x1
  refine lv_lload_n hx hb d_MD_groundPdu_0 rfl (lv_at hl 1 rfl) ?_
  refine lv_bipush (v := 8) hx hb d_MD_groundPdu_1 (by decide) ?_
  refine lv_lshr (v := j_lshr x1 8) hx hb d_MD_groundPdu_3 rfl ?_
  refine lv_ldc2 (v := 15) hx hb hown (hts _ (List.mem_cons_of_mem _ tw_780)) d_MD_groundPdu_4 ?_
  refine lv_land hx hb d_MD_groundPdu_7 ?_
  refine lv_l2i (v := ((j_lshr x1 8) &&& 15).toInt32) hx hb d_MD_groundPdu_8 rfl ?_
  refine lv_istore_n (lv' := [(3, .int (((j_lshr x1 8) &&& 15).toInt32)), (0, .ref (ad 0)), (1, .long x1)]) hx hb d_MD_groundPdu_9 rfl hl (by decide) rfl (fun ls hl => ?_)
  refine lv_lload_n hx hb d_MD_groundPdu_10 rfl (lv_at hl 2 rfl) ?_
  refine lv_bipush (v := 12) hx hb d_MD_groundPdu_11 (by decide) ?_
  refine lv_lshr (v := j_lshr x1 12) hx hb d_MD_groundPdu_13 rfl ?_
  refine lv_ldc2 (v := 15) hx hb hown (hts _ (List.mem_cons_of_mem _ tw_780)) d_MD_groundPdu_14 ?_
  refine lv_land hx hb d_MD_groundPdu_17 ?_
  refine lv_l2i (v := ((j_lshr x1 12) &&& 15).toInt32) hx hb d_MD_groundPdu_18 rfl ?_
  refine lv_istore (lv' := [(4, .int (((j_lshr x1 12) &&& 15).toInt32)), (3, .int (((j_lshr x1 8) &&& 15).toInt32)), (0, .ref (ad 0)), (1, .long x1)]) hx hb d_MD_groundPdu_19 hl (by decide) rfl (fun ls hl => ?_)
  refine lv_lload_n hx hb d_MD_groundPdu_21 rfl (lv_at hl 3 rfl) ?_
  refine lv_bipush (v := 16) hx hb d_MD_groundPdu_22 (by decide) ?_
  refine lv_lshr (v := j_lshr x1 16) hx hb d_MD_groundPdu_24 rfl ?_
  refine lv_ldc2 (v := 16777215) hx hb hown (hts _ (List.mem_cons_of_mem _ tw_1100)) d_MD_groundPdu_25 ?_
  refine lv_land hx hb d_MD_groundPdu_28 ?_
  refine lv_l2i (v := ((j_lshr x1 16) &&& 16777215).toInt32) hx hb d_MD_groundPdu_29 rfl ?_
  refine lv_istore (lv' := [(5, .int (((j_lshr x1 16) &&& 16777215).toInt32)), (4, .int (((j_lshr x1 12) &&& 15).toInt32)), (3, .int (((j_lshr x1 8) &&& 15).toInt32)), (0, .ref (ad 0)), (1, .long x1)]) hx hb d_MD_groundPdu_30 hl (by decide) rfl (fun ls hl => ?_)
  refine lv_iload_n hx hb d_MD_groundPdu_32 rfl (lv_at hl 2 rfl) ?_
  refine lv_iconst (v := 1) hx hb d_MD_groundPdu_33 (by decide) ?_
  refine lv_icmp_lt (tgt := 51) hx hb d_MD_groundPdu_34 (by decide) (fun h_1 => ?_) (fun h_1 => ?_)
  ·
    have hG := hG.trans (if_pos h_1)
    exact fl_vret hx hb hr hlocks hP hS (by rw [hG]) d_MD_groundPdu_51
  ·
    have hG := hG.trans (if_neg h_1)
    refine lv_iload_n hx hb d_MD_groundPdu_37 rfl (lv_at hl 2 rfl) ?_
    refine lv_iconst (v := 3) hx hb d_MD_groundPdu_38 (by decide) ?_
    refine lv_icmp_gt (tgt := 51) hx hb d_MD_groundPdu_39 (by decide) (fun h_2 => ?_) (fun h_2 => ?_)
    ·
      have hG := hG.trans (if_pos h_2)
      exact fl_vret hx hb hr hlocks hP hS (by rw [hG]) d_MD_groundPdu_51
    ·
      have hG := hG.trans (if_neg h_2)
      refine lv_iload hx hb d_MD_groundPdu_42 (lv_at hl 1 rfl) ?_
      refine lv_aload_n hx hb d_MD_groundPdu_44 rfl (lv_at hl 3 rfl) ?_
      refine gg_MD (k := 13) (v := .int (M.1 0 13)) hx hb hts hown hK hP  (hts _ (List.mem_cons_of_mem _ tw_794)) (by decide) rfl rfl d_MD_groundPdu_45 ?_
      refine lv_icmp_lt (tgt := 52) hx hb d_MD_groundPdu_48 (by decide) (fun h_3 => ?_) (fun h_3 => ?_)
      ·
        have hG := hG.trans (if_pos h_3)
        refine lv_aload_n hx hb d_MD_groundPdu_52 rfl (lv_at hl 3 rfl) ?_
        refine gg_MD (k := 27) (v := .ref (ad 22)) hx hb hts hown hK hP  (hts _ (List.mem_cons_of_mem _ tw_808)) (by decide) rfl rfl d_MD_groundPdu_53 ?_
        refine lv_iload hx hb d_MD_groundPdu_56 (lv_at hl 1 rfl) ?_
        refine lv_bipush (v := 12) hx hb d_MD_groundPdu_58 (by decide) ?_
        refine lv_aload_n hx hb d_MD_groundPdu_60 rfl (lv_at hl 3 rfl) ?_
        refine gg_MD (k := 1) (v := .int (M.1 0 1)) hx hb hts hown hK hP  (hts _ (List.mem_cons_of_mem _ tw_782)) (by decide) rfl rfl d_MD_groundPdu_61 ?_
        refine lv_imul hx hb d_MD_groundPdu_64 ?_
        refine sg_Aidle hx hb hK hi hP hS  (in_land _) d_MD_groundPdu_65 (fun H locs hP hS => ?_)
        refine lv_iload_n hx hb d_MD_groundPdu_66 rfl (lv_at hl 2 rfl) ?_
        refine lv_iconst (v := 1) hx hb d_MD_groundPdu_67 (by decide) ?_
        refine lv_icmp_ne (tgt := 92) hx hb d_MD_groundPdu_68 (by decide) (fun h_4 => ?_) (fun h_4 => ?_)
        ·
          have hG := hG.trans (if_neg h_4)
          refine lv_iload_n hx hb d_MD_groundPdu_92 rfl (lv_at hl 2 rfl) ?_
          refine lv_iconst (v := 2) hx hb d_MD_groundPdu_93 (by decide) ?_
          refine lv_icmp_ne (tgt := 157) hx hb d_MD_groundPdu_94 (by decide) (fun h_5 => ?_) (fun h_5 => ?_)
          ·
            have hG := hG.trans (if_neg h_5)
            refine lv_iload_n hx hb d_MD_groundPdu_157 rfl (lv_at hl 2 rfl) ?_
            refine lv_iconst (v := 3) hx hb d_MD_groundPdu_158 (by decide) ?_
            refine lv_icmp_ne (tgt := 198) hx hb d_MD_groundPdu_159 (by decide) (fun h_6 => ?_) (fun h_6 => ?_)
            ·
              have hG := hG.trans (if_neg h_6)
              exact fl_vret hx hb hr hlocks hP hS (by rw [hG]) d_MD_groundPdu_198
            ·
              have hG := hG.trans (if_pos h_6)
              refine lv_aload_n hx hb d_MD_groundPdu_162 rfl (lv_at hl 3 rfl) ?_
              refine gg_MD (k := 20) (v := .ref (ad 15)) hx hb hts hown hK hP  (hts _ (List.mem_cons_of_mem _ tw_801)) (by decide) rfl rfl d_MD_groundPdu_163 ?_
              refine lv_iload hx hb d_MD_groundPdu_166 (lv_at hl 1 rfl) ?_
              refine lv_aload_n hx hb d_MD_groundPdu_168 rfl (lv_at hl 3 rfl) ?_
              refine gg_MD (k := 20) (v := .ref (ad 15)) hx hb hts hown hK hP  (hts _ (List.mem_cons_of_mem _ tw_801)) (by decide) rfl rfl d_MD_groundPdu_169 ?_
              refine lv_iload hx hb d_MD_groundPdu_172 (lv_at hl 1 rfl) ?_
              refine ag_Adue (v := .int (M.1 15 ((((j_lshr x1 12) &&& 15).toInt32).toNatClampNeg))) hx hb hK hP  (in_land _) rfl d_MD_groundPdu_174 ?_
              refine lv_ldcw (v := 262144) hx hb hown (hts _ (List.mem_cons_of_mem _ tw_1101)) d_MD_groundPdu_175 ?_
              refine lv_ior hx hb d_MD_groundPdu_178 ?_
              refine sg_Adue hx hb hK hi hP hS  (in_land _) d_MD_groundPdu_179 (fun H locs hP hS => ?_)
              refine lv_aload_n hx hb d_MD_groundPdu_180 rfl (lv_at hl 3 rfl) ?_
              refine gg_MD (k := 18) (v := .ref (ad 13)) hx hb hts hown hK hP  (hts _ (List.mem_cons_of_mem _ tw_799)) (by decide) rfl rfl d_MD_groundPdu_181 ?_
              refine lv_iload hx hb d_MD_groundPdu_184 (lv_at hl 1 rfl) ?_
              refine ag_Aended (v := .int (M.1 13 ((((j_lshr x1 12) &&& 15).toInt32).toNatClampNeg))) hx hb hK hP  (in_land _) rfl d_MD_groundPdu_186 ?_
              refine lv_if_ne (tgt := 198) hx hb d_MD_groundPdu_187 (by decide) (fun h_7 => ?_) (fun h_7 => ?_)
              ·
                have hG := hG.trans (if_neg h_7)
                exact fl_vret hx hb hr hlocks hP hS (by rw [hG]) d_MD_groundPdu_198
              ·
                have hG := hG.trans (if_pos h_7)
                refine lv_aload_n hx hb d_MD_groundPdu_190 rfl (lv_at hl 3 rfl) ?_
                refine lv_iload hx hb d_MD_groundPdu_191 (lv_at hl 1 rfl) ?_
                refine lv_iload hx hb d_MD_groundPdu_193 (lv_at hl 0 rfl) ?_
                refine fl_callv (va_runV (As := [.int (((j_lshr x1 12) &&& 15).toInt32), .int (((j_lshr x1 16) &&& 16777215).toInt32)]) (rest := []) ⟨hx, hb, hml, hown, hts⟩ (c_MD_end l hi (fl_i (fl_i M 22 ((((j_lshr x1 12) &&& 15).toInt32).toNatClampNeg) (12 * (M.1 0 1))) 15 ((((j_lshr x1 12) &&& 15).toInt32).toNatClampNeg) ((M.1 15 ((((j_lshr x1 12) &&& 15).toInt32).toNatClampNeg)) ||| 262144)) (((j_lshr x1 12) &&& 15).toInt32) (((j_lshr x1 16) &&& 16777215).toInt32) (in_land _)) (kv_MD_end hts (hts _ (List.mem_cons_of_mem _ tw_1102)) ⟨Nat.le_of_ble_eq_true rfl, Nat.le_of_ble_eq_true rfl⟩) (fl_preV hK hSt hN hS hP (by decide) (kg_MD) rfl) rfl rfl hl.1 rfl (lv_room (Nat.le_of_ble_eq_true rfl)) d_MD_groundPdu_195 ⟨Nat.zero_le _, Nat.zero_le _⟩) hS (fun H locs hP hS => ?_)
                exact fl_vret hx hb hr hlocks hP hS (by rw [hG]) d_MD_groundPdu_198
          ·
            have hG := hG.trans (if_pos h_5)
            refine lv_aload_n hx hb d_MD_groundPdu_97 rfl (lv_at hl 3 rfl) ?_
            refine gg_MD (k := 18) (v := .ref (ad 13)) hx hb hts hown hK hP  (hts _ (List.mem_cons_of_mem _ tw_799)) (by decide) rfl rfl d_MD_groundPdu_98 ?_
            refine lv_iload hx hb d_MD_groundPdu_101 (lv_at hl 1 rfl) ?_
            refine ag_Aended (v := .int (M.1 13 ((((j_lshr x1 12) &&& 15).toInt32).toNatClampNeg))) hx hb hK hP  (in_land _) rfl d_MD_groundPdu_103 ?_
            refine lv_if_ne (tgt := 157) hx hb d_MD_groundPdu_104 (by decide) (fun h_8 => ?_) (fun h_8 => ?_)
            ·
              have hG := hG.trans (if_neg h_8)
              refine lv_iload_n hx hb d_MD_groundPdu_157 rfl (lv_at hl 2 rfl) ?_
              refine lv_iconst (v := 3) hx hb d_MD_groundPdu_158 (by decide) ?_
              refine lv_icmp_ne (tgt := 198) hx hb d_MD_groundPdu_159 (by decide) (fun _ => ?_) (fun h_9 => absurd h_9 (by rw [h_5]; decide))
              exact fl_vret hx hb hr hlocks hP hS (by rw [hG]) d_MD_groundPdu_198
            ·
              have hG := hG.trans (if_pos h_8)
              refine lv_aload_n hx hb d_MD_groundPdu_107 rfl (lv_at hl 3 rfl) ?_
              refine gg_MD (k := 21) (v := .ref (ad 16)) hx hb hts hown hK hP  (hts _ (List.mem_cons_of_mem _ tw_802)) (by decide) rfl rfl d_MD_groundPdu_108 ?_
              refine lv_iload hx hb d_MD_groundPdu_111 (lv_at hl 1 rfl) ?_
              refine ag_Acancelled (v := .int (M.1 16 ((((j_lshr x1 12) &&& 15).toInt32).toNatClampNeg))) hx hb hK hP  (in_land _) rfl d_MD_groundPdu_113 ?_
              refine lv_if_ne (tgt := 157) hx hb d_MD_groundPdu_114 (by decide) (fun h_10 => ?_) (fun h_10 => ?_)
              ·
                have hG := hG.trans (if_neg h_10)
                refine lv_iload_n hx hb d_MD_groundPdu_157 rfl (lv_at hl 2 rfl) ?_
                refine lv_iconst (v := 3) hx hb d_MD_groundPdu_158 (by decide) ?_
                refine lv_icmp_ne (tgt := 198) hx hb d_MD_groundPdu_159 (by decide) (fun _ => ?_) (fun h_11 => absurd h_11 (by rw [h_5]; decide))
                exact fl_vret hx hb hr hlocks hP hS (by rw [hG]) d_MD_groundPdu_198
              ·
                have hG := hG.trans (if_pos h_10)
                refine lv_iconst (v := 1) hx hb d_MD_groundPdu_117 (by decide) ?_
                refine lv_aload_n hx hb d_MD_groundPdu_118 rfl (lv_at hl 3 rfl) ?_
                refine gg_MD (k := 15) (v := .ref (ad 10)) hx hb hts hown hK hP  (hts _ (List.mem_cons_of_mem _ tw_796)) (by decide) rfl rfl d_MD_groundPdu_119 ?_
                refine lv_iload hx hb d_MD_groundPdu_122 (lv_at hl 1 rfl) ?_
                refine ag_Asize (v := .int (M.1 10 ((((j_lshr x1 12) &&& 15).toInt32).toNatClampNeg))) hx hb hK hP  (in_land _) rfl d_MD_groundPdu_124 ?_
                refine lv_ishl hx hb d_MD_groundPdu_125 ?_
                refine lv_iconst (v := 1) hx hb d_MD_groundPdu_126 (by decide) ?_
                refine lv_isub hx hb d_MD_groundPdu_127 ?_
                refine lv_istore (lv' := [(6, .int ((1 <<< ((M.1 10 ((((j_lshr x1 12) &&& 15).toInt32).toNatClampNeg)) &&& 31)) - 1)), (5, .int (((j_lshr x1 16) &&& 16777215).toInt32)), (4, .int (((j_lshr x1 12) &&& 15).toInt32)), (3, .int (((j_lshr x1 8) &&& 15).toInt32)), (0, .ref (ad 0)), (1, .long x1)]) hx hb d_MD_groundPdu_128 hl (by decide) rfl (fun ls hl => ?_)
                refine lv_aload_n hx hb d_MD_groundPdu_130 rfl (lv_at hl 4 rfl) ?_
                refine gg_MD (k := 20) (v := .ref (ad 15)) hx hb hts hown hK hP  (hts _ (List.mem_cons_of_mem _ tw_801)) (by decide) rfl rfl d_MD_groundPdu_131 ?_
                refine lv_iload hx hb d_MD_groundPdu_134 (lv_at hl 2 rfl) ?_
                refine lv_aload_n hx hb d_MD_groundPdu_136 rfl (lv_at hl 4 rfl) ?_
                refine gg_MD (k := 20) (v := .ref (ad 15)) hx hb hts hown hK hP  (hts _ (List.mem_cons_of_mem _ tw_801)) (by decide) rfl rfl d_MD_groundPdu_137 ?_
                refine lv_iload hx hb d_MD_groundPdu_140 (lv_at hl 2 rfl) ?_
                refine ag_Adue (v := .int (M.1 15 ((((j_lshr x1 12) &&& 15).toInt32).toNatClampNeg))) hx hb hK hP  (in_land _) rfl d_MD_groundPdu_142 ?_
                refine lv_iload hx hb d_MD_groundPdu_143 (lv_at hl 1 rfl) ?_
                refine lv_iload hx hb d_MD_groundPdu_145 (lv_at hl 0 rfl) ?_
                refine lv_ldcw (v := 65536) hx hb hown (hts _ (List.mem_cons_of_mem _ tw_997)) d_MD_groundPdu_147 ?_
                refine lv_ior hx hb d_MD_groundPdu_150 ?_
                refine lv_iand hx hb d_MD_groundPdu_151 ?_
                refine lv_ior hx hb d_MD_groundPdu_152 ?_
                refine sg_Adue hx hb hK hi hP hS  (in_land _) d_MD_groundPdu_153 (fun H locs hP hS => ?_)
                refine lv_goto (tgt := 198) hx hb d_MD_groundPdu_154 (by decide) ?_
                exact fl_vret hx hb hr hlocks hP hS (by rw [hG]) d_MD_groundPdu_198
        ·
          have hG := hG.trans (if_pos h_4)
          refine lv_aload_n hx hb d_MD_groundPdu_71 rfl (lv_at hl 3 rfl) ?_
          refine gg_MD (k := 18) (v := .ref (ad 13)) hx hb hts hown hK hP  (hts _ (List.mem_cons_of_mem _ tw_799)) (by decide) rfl rfl d_MD_groundPdu_72 ?_
          refine lv_iload hx hb d_MD_groundPdu_75 (lv_at hl 1 rfl) ?_
          refine ag_Aended (v := .int (M.1 13 ((((j_lshr x1 12) &&& 15).toInt32).toNatClampNeg))) hx hb hK hP  (in_land _) rfl d_MD_groundPdu_77 ?_
          refine lv_if_ne (tgt := 92) hx hb d_MD_groundPdu_78 (by decide) (fun h_12 => ?_) (fun h_12 => ?_)
          ·
            have hG := hG.trans (if_neg h_12)
            refine lv_iload_n hx hb d_MD_groundPdu_92 rfl (lv_at hl 2 rfl) ?_
            refine lv_iconst (v := 2) hx hb d_MD_groundPdu_93 (by decide) ?_
            refine lv_icmp_ne (tgt := 157) hx hb d_MD_groundPdu_94 (by decide) (fun _ => ?_) (fun h_13 => absurd h_13 (by rw [h_4]; decide))
            refine lv_iload_n hx hb d_MD_groundPdu_157 rfl (lv_at hl 2 rfl) ?_
            refine lv_iconst (v := 3) hx hb d_MD_groundPdu_158 (by decide) ?_
            refine lv_icmp_ne (tgt := 198) hx hb d_MD_groundPdu_159 (by decide) (fun _ => ?_) (fun h_14 => absurd h_14 (by rw [h_4]; decide))
            exact fl_vret hx hb hr hlocks hP hS (by rw [hG]) d_MD_groundPdu_198
          ·
            have hG := hG.trans (if_pos h_12)
            refine lv_aload_n hx hb d_MD_groundPdu_81 rfl (lv_at hl 3 rfl) ?_
            refine gg_MD (k := 22) (v := .ref (ad 17)) hx hb hts hown hK hP  (hts _ (List.mem_cons_of_mem _ tw_803)) (by decide) rfl rfl d_MD_groundPdu_82 ?_
            refine lv_iload hx hb d_MD_groundPdu_85 (lv_at hl 1 rfl) ?_
            refine lv_iconst (v := 1) hx hb d_MD_groundPdu_87 (by decide) ?_
            refine sg_Aanswered hx hb hK hi hP hS  (rfl) (in_land _) d_MD_groundPdu_88 (fun H locs hP hS => ?_)
            refine lv_goto (tgt := 198) hx hb d_MD_groundPdu_89 (by decide) ?_
            exact fl_vret hx hb hr hlocks hP hS (by rw [hG]) d_MD_groundPdu_198
      ·
        have hG := hG.trans (if_neg h_3)
        exact fl_vret hx hb hr hlocks hP hS (by rw [hG]) d_MD_groundPdu_51
theorem hd_MD_groundPdu : y_MD_groundPdu.cls ≠ "java/lang/invoke/MethodHandle" ∧ y_MD_groundPdu.cls ≠ "java/lang/invoke/VarHandle" ∧ (parseMethodDescriptor y_MD_groundPdu.desc).map (fun d => d.parameters.length) = some 1 := by decide +kernel
theorem kv_MD_groundPdu {R : Room} {s : State} {args : Array Value} {c0 : Cond} {own : String} {index : Nat} (hts : ∀ w ∈ c0 :: gw, w.before args s = true) (hl : (Cond.methodLink own index y_MD_groundPdu).before args s = true) (hR : 1 + 1 ≤ R.frames ∧ 8 + (7 + 11) + 22 ≤ R.locals) : CallW R s args own "FarLinkModel" index y_MD_groundPdu b_MD_groundPdu 7 none w_MD_groundPdu ({ frames := 1, cells := 0, slots := 0, locals := 22 } : Room) 0 0 1 := ⟨callB_of 1 hts (gw_in tw_1099) rfl rfl rfl (hts _ (List.mem_cons_of_mem _ tw_10)) hl hd_MD_groundPdu hR, hts _ (List.mem_cons_of_mem _ tw_1098), hts _ (List.mem_cons_of_mem _ ps_MD_groundPdu)⟩
def g_MD_report (M : fl_M) : Int32 :=
  if (M.1 0 39) = 0 then (if (M.1 0 40) = 0 then (((M.1 0 38) + 0) + 0) else (((M.1 0 38) + 0) + 32)) else (if (M.1 0 40) = 0 then (((M.1 0 38) + 16) + 0) else (((M.1 0 38) + 16) + 32))
set_option maxHeartbeats 400000 in
set_option maxRecDepth 100000 in
theorem c_MD_report (l : Launch) {D : va_G} {ad : Nat → Nat} {cA : Nat → ClassId} (hi : fl_inj ad 41) (M : fl_M) : Met l y_MD_report w_MD_report ({ frames := 0, cells := 0, slots := 0, locals := 0 } : Room) (va_Pc [.ref (ad 0)] (fl_B D cls (yt cA) ([] : fl_L) ([] : fl_FN) ([] : fl_MN) ad (yc ad cA) 41 M)) (va_Qi (fun r M' => r = (g_MD_report M) ∧ M' = M) (fl_E D cls ad (yc ad cA) 41) (fl_A ad 41)) 0 0 (fl_A ad 41) := by
  refine Met.ofW (cc := b_MD_report) (maxL := 1) (ret := (some .int)) (by decide) rfl ?_
  intro p e s m args below meth c s₁ B hml hv
  obtain ⟨rfl, hP, hK, hSt, hN⟩ := hv
  have hx := B.exec
  have hb := B.bytes
  have hr := B.returns
  have hts := atoms_spec (ws := w_MD_report) B.pre
  have hown : s.vm.findClass "FarLinkModel" = some m.cls := findClass_of_methodNamed B.named
  have hlocks := B.notSynchronized
  have hS : va_S (fl_A ad 41) s.heap s.heap [] := va_S.rf
  have hl := lv_entry ([.ref (ad 0)]) (n := 1) (Nat.le_of_ble_eq_true rfl)
  rw [lg_entry_eq]
  generalize (lg_sl ([.ref (ad 0)]) ++ List.replicate (1 - (lg_sl ([.ref (ad 0)])).length) Slot.unset).toArray = ls at hl ⊢
  have hl : lv_has ls 1 [(0, .ref (ad 0))] := hl
  have hG := g_MD_report.eq_1 M
  refine lv_aload_n hx hb d_MD_report_0 rfl (lv_at hl 0 rfl) ?_
  refine gg_MD (k := 38) (v := .int (M.1 0 38)) hx hb hts hown hK hP  (hts _ (List.mem_cons_of_mem _ tw_819)) (by decide) rfl rfl d_MD_report_1 ?_
  refine lv_aload_n hx hb d_MD_report_4 rfl (lv_at hl 0 rfl) ?_
  refine gg_MD (k := 39) (v := .int (M.1 0 39)) hx hb hts hown hK hP  (hts _ (List.mem_cons_of_mem _ tw_820)) (by decide) rfl rfl d_MD_report_5 ?_
  refine lv_if_eq (tgt := 16) hx hb d_MD_report_8 (by decide) (fun h_1 => ?_) (fun h_1 => ?_)
  ·
    have hG := hG.trans (if_pos h_1)
    refine lv_iconst (v := 0) hx hb d_MD_report_16 (by decide) ?_
    refine lv_iadd hx hb d_MD_report_17 ?_
    refine lv_aload_n hx hb d_MD_report_18 rfl (lv_at hl 0 rfl) ?_
    refine gg_MD (k := 40) (v := .int (M.1 0 40)) hx hb hts hown hK hP  (hts _ (List.mem_cons_of_mem _ tw_821)) (by decide) rfl rfl d_MD_report_19 ?_
    refine lv_if_eq (tgt := 30) hx hb d_MD_report_22 (by decide) (fun h_2 => ?_) (fun h_2 => ?_)
    ·
      have hG := hG.trans (if_pos h_2)
      refine lv_iconst (v := 0) hx hb d_MD_report_30 (by decide) ?_
      refine lv_iadd hx hb d_MD_report_31 ?_
      exact fl_iret hx hb hr hlocks hP hS hG.symm rfl d_MD_report_32
    ·
      have hG := hG.trans (if_neg h_2)
      refine lv_bipush (v := 32) hx hb d_MD_report_25 (by decide) ?_
      refine lv_goto (tgt := 31) hx hb d_MD_report_27 (by decide) ?_
      refine lv_iadd hx hb d_MD_report_31 ?_
      exact fl_iret hx hb hr hlocks hP hS hG.symm rfl d_MD_report_32
  ·
    have hG := hG.trans (if_neg h_1)
    refine lv_bipush (v := 16) hx hb d_MD_report_11 (by decide) ?_
    refine lv_goto (tgt := 17) hx hb d_MD_report_13 (by decide) ?_
    refine lv_iadd hx hb d_MD_report_17 ?_
    refine lv_aload_n hx hb d_MD_report_18 rfl (lv_at hl 0 rfl) ?_
    refine gg_MD (k := 40) (v := .int (M.1 0 40)) hx hb hts hown hK hP  (hts _ (List.mem_cons_of_mem _ tw_821)) (by decide) rfl rfl d_MD_report_19 ?_
    refine lv_if_eq (tgt := 30) hx hb d_MD_report_22 (by decide) (fun h_3 => ?_) (fun h_3 => ?_)
    ·
      have hG := hG.trans (if_pos h_3)
      refine lv_iconst (v := 0) hx hb d_MD_report_30 (by decide) ?_
      refine lv_iadd hx hb d_MD_report_31 ?_
      exact fl_iret hx hb hr hlocks hP hS hG.symm rfl d_MD_report_32
    ·
      have hG := hG.trans (if_neg h_3)
      refine lv_bipush (v := 32) hx hb d_MD_report_25 (by decide) ?_
      refine lv_goto (tgt := 31) hx hb d_MD_report_27 (by decide) ?_
      refine lv_iadd hx hb d_MD_report_31 ?_
      exact fl_iret hx hb hr hlocks hP hS hG.symm rfl d_MD_report_32
theorem hd_MD_report : y_MD_report.cls ≠ "java/lang/invoke/MethodHandle" ∧ y_MD_report.cls ≠ "java/lang/invoke/VarHandle" ∧ (parseMethodDescriptor y_MD_report.desc).map (fun d => d.parameters.length) = some 0 := by decide +kernel
theorem kv_MD_report {R : Room} {s : State} {args : Array Value} {c0 : Cond} {own : String} {index : Nat} (hts : ∀ w ∈ c0 :: gw, w.before args s = true) (hl : (Cond.methodLink own index y_MD_report).before args s = true) (hR : 0 + 1 ≤ R.frames ∧ 8 + (1 + 11) + 0 ≤ R.locals) : CallW R s args own "FarLinkModel" index y_MD_report b_MD_report 1 (some .int) w_MD_report ({ frames := 0, cells := 0, slots := 0, locals := 0 } : Room) 0 0 0 := ⟨callB_of 0 hts (gw_in tw_1162) rfl rfl rfl (hts _ (List.mem_cons_of_mem _ tw_10)) hl hd_MD_report hR, hts _ (List.mem_cons_of_mem _ tw_1160), hts _ (List.mem_cons_of_mem _ tw_1161)⟩
def g_MD_time (M : fl_M) : Int32 :=
  M.1 0 3
set_option maxHeartbeats 400000 in
set_option maxRecDepth 100000 in
theorem c_MD_time (l : Launch) {D : va_G} {ad : Nat → Nat} {cA : Nat → ClassId} (hi : fl_inj ad 41) (M : fl_M) : Met l y_MD_time w_MD_time ({ frames := 0, cells := 0, slots := 0, locals := 0 } : Room) (va_Pc [.ref (ad 0)] (fl_B D cls (yt cA) ([] : fl_L) ([] : fl_FN) ([] : fl_MN) ad (yc ad cA) 41 M)) (va_Qi (fun r M' => r = (g_MD_time M) ∧ M' = M) (fl_E D cls ad (yc ad cA) 41) (fl_A ad 41)) 0 0 (fl_A ad 41) := by
  refine Met.ofW (cc := b_MD_time) (maxL := 1) (ret := (some .int)) (by decide) rfl ?_
  intro p e s m args below meth c s₁ B hml hv
  obtain ⟨rfl, hP, hK, hSt, hN⟩ := hv
  have hx := B.exec
  have hb := B.bytes
  have hr := B.returns
  have hts := atoms_spec (ws := w_MD_time) B.pre
  have hown : s.vm.findClass "FarLinkModel" = some m.cls := findClass_of_methodNamed B.named
  have hlocks := B.notSynchronized
  have hS : va_S (fl_A ad 41) s.heap s.heap [] := va_S.rf
  have hl := lv_entry ([.ref (ad 0)]) (n := 1) (Nat.le_of_ble_eq_true rfl)
  rw [lg_entry_eq]
  generalize (lg_sl ([.ref (ad 0)]) ++ List.replicate (1 - (lg_sl ([.ref (ad 0)])).length) Slot.unset).toArray = ls at hl ⊢
  have hl : lv_has ls 1 [(0, .ref (ad 0))] := hl
  have hG := g_MD_time.eq_1 M
  refine lv_aload_n hx hb d_MD_time_0 rfl (lv_at hl 0 rfl) ?_
  refine gg_MD (k := 3) (v := .int (M.1 0 3)) hx hb hts hown hK hP  (hts _ (List.mem_cons_of_mem _ tw_784)) (by decide) rfl rfl d_MD_time_1 ?_
  exact fl_iret hx hb hr hlocks hP hS hG.symm rfl d_MD_time_4
theorem hd_MD_time : y_MD_time.cls ≠ "java/lang/invoke/MethodHandle" ∧ y_MD_time.cls ≠ "java/lang/invoke/VarHandle" ∧ (parseMethodDescriptor y_MD_time.desc).map (fun d => d.parameters.length) = some 0 := by decide +kernel
theorem kv_MD_time {R : Room} {s : State} {args : Array Value} {c0 : Cond} {own : String} {index : Nat} (hts : ∀ w ∈ c0 :: gw, w.before args s = true) (hl : (Cond.methodLink own index y_MD_time).before args s = true) (hR : 0 + 1 ≤ R.frames ∧ 8 + (1 + 11) + 0 ≤ R.locals) : CallW R s args own "FarLinkModel" index y_MD_time b_MD_time 1 (some .int) w_MD_time ({ frames := 0, cells := 0, slots := 0, locals := 0 } : Room) 0 0 0 := ⟨callB_of 0 hts (gw_in tw_1141) rfl rfl rfl (hts _ (List.mem_cons_of_mem _ tw_10)) hl hd_MD_time hR, hts _ (List.mem_cons_of_mem _ tw_1139), hts _ (List.mem_cons_of_mem _ tw_1140)⟩
def g_MD_alerts (M : fl_M) : Int32 :=
  M.1 0 37
set_option maxHeartbeats 400000 in
set_option maxRecDepth 100000 in
theorem c_MD_alerts (l : Launch) {D : va_G} {ad : Nat → Nat} {cA : Nat → ClassId} (hi : fl_inj ad 41) (M : fl_M) : Met l y_MD_alerts w_MD_alerts ({ frames := 0, cells := 0, slots := 0, locals := 0 } : Room) (va_Pc [.ref (ad 0)] (fl_B D cls (yt cA) ([] : fl_L) ([] : fl_FN) ([] : fl_MN) ad (yc ad cA) 41 M)) (va_Qi (fun r M' => r = (g_MD_alerts M) ∧ M' = M) (fl_E D cls ad (yc ad cA) 41) (fl_A ad 41)) 0 0 (fl_A ad 41) := by
  refine Met.ofW (cc := b_MD_alerts) (maxL := 1) (ret := (some .int)) (by decide) rfl ?_
  intro p e s m args below meth c s₁ B hml hv
  obtain ⟨rfl, hP, hK, hSt, hN⟩ := hv
  have hx := B.exec
  have hb := B.bytes
  have hr := B.returns
  have hts := atoms_spec (ws := w_MD_alerts) B.pre
  have hown : s.vm.findClass "FarLinkModel" = some m.cls := findClass_of_methodNamed B.named
  have hlocks := B.notSynchronized
  have hS : va_S (fl_A ad 41) s.heap s.heap [] := va_S.rf
  have hl := lv_entry ([.ref (ad 0)]) (n := 1) (Nat.le_of_ble_eq_true rfl)
  rw [lg_entry_eq]
  generalize (lg_sl ([.ref (ad 0)]) ++ List.replicate (1 - (lg_sl ([.ref (ad 0)])).length) Slot.unset).toArray = ls at hl ⊢
  have hl : lv_has ls 1 [(0, .ref (ad 0))] := hl
  have hG := g_MD_alerts.eq_1 M
  refine lv_aload_n hx hb d_MD_alerts_0 rfl (lv_at hl 0 rfl) ?_
  refine gg_MD (k := 37) (v := .int (M.1 0 37)) hx hb hts hown hK hP  (hts _ (List.mem_cons_of_mem _ tw_818)) (by decide) rfl rfl d_MD_alerts_1 ?_
  exact fl_iret hx hb hr hlocks hP hS hG.symm rfl d_MD_alerts_4
theorem hd_MD_alerts : y_MD_alerts.cls ≠ "java/lang/invoke/MethodHandle" ∧ y_MD_alerts.cls ≠ "java/lang/invoke/VarHandle" ∧ (parseMethodDescriptor y_MD_alerts.desc).map (fun d => d.parameters.length) = some 0 := by decide +kernel
theorem kv_MD_alerts {R : Room} {s : State} {args : Array Value} {c0 : Cond} {own : String} {index : Nat} (hts : ∀ w ∈ c0 :: gw, w.before args s = true) (hl : (Cond.methodLink own index y_MD_alerts).before args s = true) (hR : 0 + 1 ≤ R.frames ∧ 8 + (1 + 11) + 0 ≤ R.locals) : CallW R s args own "FarLinkModel" index y_MD_alerts b_MD_alerts 1 (some .int) w_MD_alerts ({ frames := 0, cells := 0, slots := 0, locals := 0 } : Room) 0 0 0 := ⟨callB_of 0 hts (gw_in tw_1170) rfl rfl rfl (hts _ (List.mem_cons_of_mem _ tw_10)) hl hd_MD_alerts hR, hts _ (List.mem_cons_of_mem _ tw_1168), hts _ (List.mem_cons_of_mem _ tw_1169)⟩
