/-! contracts of the reference: 34.ysnd -/
theorem fd_L (x : Int32) : ∀ k i : Nat, i + k = 17 → ∃ j : Nat, j ≤ 17 ∧ g_MD_firstDue_L26 x k i = nI j := by
  intro k
  induction k with
  | zero => intro i h; exact ⟨i, by omega, g_MD_firstDue_L26.eq_1 ..⟩
  | succ k ih =>
    intro i h
    rw [g_MD_firstDue_L26]
    split
    · exact ih (i + 1) (by omega)
    · exact ⟨i, by omega, rfl⟩
theorem fd_nn (x : Int32) : ∃ j : Nat, j ≤ 18 ∧ g_MD_firstDue x = nI j := by
  unfold g_MD_firstDue
  split
  · split
    · obtain ⟨j, hj, e⟩ := fd_L x 17 0 rfl
      exact ⟨j, by omega, e⟩
    · exact ⟨16, by omega, rfl⟩
  · exact ⟨18, by omega, rfl⟩
theorem fd_in {x : Int32} (h : ¬ 16 ≤ g_MD_firstDue x) : vp_in (g_MD_firstDue x) 16 := by
  obtain ⟨j, hj, e⟩ := fd_nn x
  rw [e] at h ⊢
  refine vp_in_nI ?_ (by decide)
  rcases Nat.lt_or_ge j 16 with h1 | h1
  · exact h1
  · exact absurd (nI_le (a := 16) h1 (by omega)) h
theorem op_sub {o x : Int32} (ho : nn o) (h16 : o.toNatClampNeg ≤ 16) (h : (x &&& 15) ≤ o) : nn (o - (x &&& 15)) ∧ (o - (x &&& 15)).toNatClampNeg ≤ 16 := by
  obtain ⟨j, hj, e⟩ := pk_andE x (m := 15) 4 rfl
  have eo : o = nI o.toNatClampNeg := ho
  generalize o.toNatClampNeg = n at eo h16
  subst eo
  rw [e] at h ⊢
  have h2 := (nI_leI (by omega) (by omega)).mp h
  rw [pk_sub h2]
  refine ⟨nn_nI (by omega), ?_⟩
  rw [nI_clamp (by omega)]
  omega
def g_MD_checksum_L4 (M : fl_M) (x1 : Int32) : Nat → Nat → Int32 → Int32
  | 0, i_4, sm => (sm)
  | k_4 + 1, i_4, sm => g_MD_checksum_L4 M x1 k_4 (i_4 + 1) (sm + (M.1 9 (((16 * x1) + (nI i_4)).toNatClampNeg)))
def g_MD_checksum (M : fl_M) (x1 : Int32) : Int32 :=
  (g_MD_checksum_L4 M x1 ((M.1 10 x1.toNatClampNeg).toNatClampNeg) 0 0)
set_option maxHeartbeats 400000 in
set_option maxRecDepth 100000 in
theorem c_MD_checksum (l : Launch) {D : va_G} {ad : Nat → Nat} {cA : Nat → ClassId} (hi : fl_inj ad 41) (M : fl_M) (x1 : Int32) (ht : vp_in x1 16) (hs : nn (M.1 10 x1.toNatClampNeg)) (hs16 : (M.1 10 x1.toNatClampNeg).toNatClampNeg ≤ 16) : Met l y_MD_checksum w_MD_checksum ({ frames := 0, cells := 0, slots := 0, locals := 0 } : Room) (va_Pc [.ref (ad 0), .int x1] (fl_B D cls (yt cA) ([] : fl_L) ([] : fl_FN) ([] : fl_MN) ad (yc ad cA) 41 M)) (va_Qi (fun r M' => r = (g_MD_checksum M x1) ∧ M' = M) (fl_E D cls ad (yc ad cA) 41) (fl_A ad 41)) 0 0 (fl_A ad 41) := by
  refine Met.ofW (cc := b_MD_checksum) (maxL := 4) (ret := (some .int)) (by decide) rfl ?_
  intro p e s m args below meth c s₁ B hml hv
  obtain ⟨rfl, hP, hK, hSt, hN⟩ := hv
  have hx := B.exec
  have hb := B.bytes
  have hr := B.returns
  have hts := atoms_spec (ws := w_MD_checksum) B.pre
  have hown : s.vm.findClass "FarLinkModel" = some m.cls := findClass_of_methodNamed B.named
  have hlocks := B.notSynchronized
  have hS : va_S (fl_A ad 41) s.heap s.heap [] := va_S.rf
  have hl := lv_entry ([.ref (ad 0), .int x1]) (n := 4) (Nat.le_of_ble_eq_true rfl)
  rw [lg_entry_eq]
  generalize (lg_sl ([.ref (ad 0), .int x1]) ++ List.replicate (4 - (lg_sl ([.ref (ad 0), .int x1])).length) Slot.unset).toArray = ls at hl ⊢
  have hl : lv_has ls 4 [(0, .ref (ad 0)), (1, .int x1)] := hl
  have hG := g_MD_checksum.eq_1 M x1
  refine lv_iconst (v := 0) hx hb d_MD_checksum_0 (by decide) ?_
  refine lv_istore_n (lv' := [(2, .int 0), (0, .ref (ad 0)), (1, .int x1)]) hx hb d_MD_checksum_1 rfl hl (by decide) rfl (fun ls hl => ?_)
  refine lv_iconst (v := 0) hx hb d_MD_checksum_2 (by decide) ?_
  refine lv_istore_n (lv' := [(3, .int 0), (2, .int 0), (0, .ref (ad 0)), (1, .int x1)]) hx hb d_MD_checksum_3 rfl hl (by decide) rfl (fun ls hl => ?_)
  have lp_4 : ∀ (k_4 : Nat) (i_4 : Nat) (sm : Int32) (ls : Array Slot) (H : Heap) (locs : List Loc), i_4 + k_4 = (M.1 10 x1.toNatClampNeg).toNatClampNeg → lv_has ls 4 [(0, .ref (ad 0)), (1, .int x1), (2, .int sm), (3, .int (nI i_4))] → va_P D cls (fl_w ad (yc ad cA) 41 M) H → va_S (fl_A ad 41) s.heap H locs → (∀ (v : Int32) (ls : Array Slot) (H : Heap) (locs : List Loc), v = g_MD_checksum_L4 M x1 k_4 i_4 sm → lv_has ls 4 [(0, .ref (ad 0)), (1, .int x1), (2, .int v)] → va_P D cls (fl_w ad (yc ad cA) 41 M) H → va_S (fl_A ad 41) s.heap H locs → W p l e (headSpec w_MD_checksum ({ frames := 0, cells := 0, slots := 0, locals := 0 } : Room)).room s m ([.ref (ad 0), .int x1] : List Value).toArray below meth c H locs 0 0 (MQ below (va_Qi (fun r M' => r = (g_MD_checksum M x1) ∧ M' = M) (fl_E D cls ad (yc ad cA) 41) (fl_A ad 41)) ([.ref (ad 0), .int x1] : List Value).toArray s 0 0 (fl_A ad 41)) (F0 m 34 ls [])) → W p l e (headSpec w_MD_checksum ({ frames := 0, cells := 0, slots := 0, locals := 0 } : Room)).room s m ([.ref (ad 0), .int x1] : List Value).toArray below meth c H locs 0 0 (MQ below (va_Qi (fun r M' => r = (g_MD_checksum M x1) ∧ M' = M) (fl_E D cls ad (yc ad cA) 41) (fl_A ad 41)) ([.ref (ad 0), .int x1] : List Value).toArray s 0 0 (fl_A ad 41)) (F0 m 4 ls []) := by
    intro k_4
    induction k_4 with
    | zero =>
      intro i_4 sm ls H locs hbd hl hP hS kk
      have hG : g_MD_checksum_L4 M x1 0 i_4 sm = _ := g_MD_checksum_L4.eq_1 ..
      refine lv_iload_n hx hb d_MD_checksum_4 rfl (lv_at hl 3 rfl) ?_
      refine lv_aload_n hx hb d_MD_checksum_5 rfl (lv_at hl 0 rfl) ?_
      refine gg_MD (k := 15) (v := .ref (ad 10)) hx hb hts hown hK hP  (hts _ (List.mem_cons_of_mem _ tw_796)) (by decide) rfl rfl d_MD_checksum_6 ?_
      refine lv_iload_n hx hb d_MD_checksum_9 rfl (lv_at hl 1 rfl) ?_
      refine ag_Asize (v := .int (M.1 10 x1.toNatClampNeg)) hx hb hK hP  (by assumption) rfl d_MD_checksum_10 ?_
      refine lv_icmp_ge (tgt := 34) hx hb d_MD_checksum_11 (by decide) (fun _ => ?_) (fun h_1 => absurd (fl_le (b := (M.1 10 x1.toNatClampNeg).toNatClampNeg) hs (by omega) (by omega)) h_1)
      have hl := lv_sub (l' := [(0, .ref (ad 0)), (1, .int x1), (2, .int sm)]) hl [0, 1, 2] rfl
      exact kk (sm) ls _ _ hG.symm hl hP hS
    | succ k_4 ih_4 =>
      intro i_4 sm ls H locs hbd hl hP hS kk
      have hG : g_MD_checksum_L4 M x1 (k_4 + 1) i_4 sm = _ := g_MD_checksum_L4.eq_2 ..
      refine lv_iload_n hx hb d_MD_checksum_4 rfl (lv_at hl 3 rfl) ?_
      refine lv_aload_n hx hb d_MD_checksum_5 rfl (lv_at hl 0 rfl) ?_
      refine gg_MD (k := 15) (v := .ref (ad 10)) hx hb hts hown hK hP  (hts _ (List.mem_cons_of_mem _ tw_796)) (by decide) rfl rfl d_MD_checksum_6 ?_
      refine lv_iload_n hx hb d_MD_checksum_9 rfl (lv_at hl 1 rfl) ?_
      refine ag_Asize (v := .int (M.1 10 x1.toNatClampNeg)) hx hb hK hP  (by assumption) rfl d_MD_checksum_10 ?_
      refine lv_icmp_ge (tgt := 34) hx hb d_MD_checksum_11 (by decide) (fun h_2 => absurd h_2 (fl_nle (b := (M.1 10 x1.toNatClampNeg).toNatClampNeg) hs (by omega) (by omega))) (fun _ => ?_)
      refine lv_iload_n hx hb d_MD_checksum_14 rfl (lv_at hl 2 rfl) ?_
      refine lv_aload_n hx hb d_MD_checksum_15 rfl (lv_at hl 0 rfl) ?_
      refine gg_MD (k := 14) (v := .ref (ad 9)) hx hb hts hown hK hP  (hts _ (List.mem_cons_of_mem _ tw_795)) (by decide) rfl rfl d_MD_checksum_16 ?_
      refine lv_bipush (v := 16) hx hb d_MD_checksum_19 (by decide) ?_
      refine lv_iload_n hx hb d_MD_checksum_21 rfl (lv_at hl 1 rfl) ?_
      refine lv_imul hx hb d_MD_checksum_22 ?_
      refine lv_iload_n hx hb d_MD_checksum_23 rfl (lv_at hl 3 rfl) ?_
      refine lv_iadd hx hb d_MD_checksum_24 ?_
      refine ag_Awords (v := .int (M.1 9 (((16 * x1) + (nI i_4)).toNatClampNeg))) hx hb hK hP  (in_mul (by assumption) (vp_in_nI (by omega) (by decide))) rfl d_MD_checksum_25 ?_
      refine lv_iadd hx hb d_MD_checksum_26 ?_
      refine lv_istore_n (lv' := [(2, .int (sm + (M.1 9 (((16 * x1) + (nI i_4)).toNatClampNeg)))), (0, .ref (ad 0)), (1, .int x1), (3, .int (nI i_4))]) hx hb d_MD_checksum_27 rfl hl (by decide) rfl (fun ls hl => ?_)
      refine lv_iinc (k := 3) (v := nI (i_4 + 1)) (lv' := [(3, .int (nI (i_4 + 1))), (2, .int (sm + (M.1 9 (((16 * x1) + (nI i_4)).toNatClampNeg)))), (0, .ref (ad 0)), (1, .int x1)]) hx hb d_MD_checksum_28 hl rfl (fl_inc _) (by decide) rfl (fun ls hl => ?_)
      refine lv_goto (tgt := 4) hx hb d_MD_checksum_31 (by decide) ?_
      have hl := lv_sub (l' := [(0, .ref (ad 0)), (1, .int x1), (2, .int (sm + (M.1 9 (((16 * x1) + (nI i_4)).toNatClampNeg)))), (3, .int (nI (i_4 + 1)))]) hl [2, 3, 1, 0] rfl
      exact ih_4 (i_4 + 1) (sm + (M.1 9 (((16 * x1) + (nI i_4)).toNatClampNeg))) ls _ _ (by omega) hl hP hS (fun v ls H locs hv => kk v ls H locs (hv.trans hG.symm))
  have hl := lv_sub (l' := [(0, .ref (ad 0)), (1, .int x1), (2, .int 0), (3, .int (nI 0))]) hl [2, 3, 1, 0] rfl
  refine lp_4 ((M.1 10 x1.toNatClampNeg).toNatClampNeg) 0 0 ls _ _ (by omega) hl hP hS (fun v ls H locs hv hl hP hS => ?_)
  subst hv
  refine lv_iload_n hx hb d_MD_checksum_34 rfl (lv_at hl 2 rfl) ?_
  exact fl_iret hx hb hr hlocks hP hS hG.symm rfl d_MD_checksum_35
theorem hd_MD_checksum : y_MD_checksum.cls ≠ "java/lang/invoke/MethodHandle" ∧ y_MD_checksum.cls ≠ "java/lang/invoke/VarHandle" ∧ (parseMethodDescriptor y_MD_checksum.desc).map (fun d => d.parameters.length) = some 1 := by decide +kernel
theorem kv_MD_checksum {R : Room} {s : State} {args : Array Value} {c0 : Cond} {own : String} {index : Nat} (hts : ∀ w ∈ c0 :: gw, w.before args s = true) (hl : (Cond.methodLink own index y_MD_checksum).before args s = true) (hR : 0 + 1 ≤ R.frames ∧ 8 + (4 + 11) + 0 ≤ R.locals) : CallW R s args own "FarLinkModel" index y_MD_checksum b_MD_checksum 4 (some .int) w_MD_checksum ({ frames := 0, cells := 0, slots := 0, locals := 0 } : Room) 0 0 1 := ⟨callB_of 1 hts (gw_in tw_1135) rfl rfl rfl (hts _ (List.mem_cons_of_mem _ tw_10)) hl hd_MD_checksum hR, hts _ (List.mem_cons_of_mem _ tw_1134), hts _ (List.mem_cons_of_mem _ ps_MD_checksum)⟩
def g_MD_markAll_L2  : Nat → Nat → fl_M → fl_M
  | 0, i_2, M1 => (M1)
  | k_2 + 1, i_2, M1 => g_MD_markAll_L2  k_2 (i_2 + 1) (fl_i M1 24 ((((M1.1 0 29) - (nI i_2)) &&& 15).toNatClampNeg) 1)
def g_MD_markAll (M : fl_M) : fl_M :=
  (g_MD_markAll_L2  ((M.1 0 30).toNatClampNeg) 1 M)
set_option maxHeartbeats 400000 in
set_option maxRecDepth 100000 in
theorem c_MD_markAll (l : Launch) {D : va_G} {ad : Nat → Nat} {cA : Nat → ClassId} (hi : fl_inj ad 41) (M : fl_M) (hu : nn (M.1 0 30)) (hu16 : (M.1 0 30).toNatClampNeg ≤ 16) : Met l y_MD_markAll w_MD_markAll ({ frames := 0, cells := 0, slots := 0, locals := 0 } : Room) (va_Pc [.ref (ad 0)] (fl_B D cls (yt cA) ([] : fl_L) ([] : fl_FN) ([] : fl_MN) ad (yc ad cA) 41 M)) (va_Qv (fun M' => M' = (g_MD_markAll M)) (fl_E D cls ad (yc ad cA) 41) (fl_A ad 41)) 0 0 (fl_A ad 41) := by
  refine Met.ofW (cc := b_MD_markAll) (maxL := 2) (ret := none) (by decide) rfl ?_
  intro p e s m args below meth c s₁ B hml hv
  obtain ⟨rfl, hP, hK, hSt, hN⟩ := hv
  have hx := B.exec
  have hb := B.bytes
  have hr := B.returns
  have hts := atoms_spec (ws := w_MD_markAll) B.pre
  have hown : s.vm.findClass "FarLinkModel" = some m.cls := findClass_of_methodNamed B.named
  have hlocks := B.notSynchronized
  have hS : va_S (fl_A ad 41) s.heap s.heap [] := va_S.rf
  have hl := lv_entry ([.ref (ad 0)]) (n := 2) (Nat.le_of_ble_eq_true rfl)
  rw [lg_entry_eq]
  generalize (lg_sl ([.ref (ad 0)]) ++ List.replicate (2 - (lg_sl ([.ref (ad 0)])).length) Slot.unset).toArray = ls at hl ⊢
  have hl : lv_has ls 2 [(0, .ref (ad 0))] := hl
  have hG := g_MD_markAll.eq_1 M
  refine lv_iconst (v := 1) hx hb d_MD_markAll_0 (by decide) ?_
  refine lv_istore_n (lv' := [(1, .int 1), (0, .ref (ad 0))]) hx hb d_MD_markAll_1 rfl hl (by decide) rfl (fun ls hl => ?_)
  have hBo := tn_lt (M.1 0 30)
  have lp_2 : ∀ (k_2 : Nat) (i_2 : Nat) (M1 : fl_M) (ls : Array Slot) (H : Heap) (locs : List Loc), i_2 + k_2 = (M.1 0 30).toNatClampNeg + 1 → M1.1 0 = M.1 0 → lv_has ls 2 [(0, .ref (ad 0)), (1, .int (nI i_2))] → va_P D cls (fl_w ad (yc ad cA) 41 M1) H → va_S (fl_A ad 41) s.heap H locs → (∀ (v : fl_M) (ls : Array Slot) (H : Heap) (locs : List Loc), v = g_MD_markAll_L2  k_2 i_2 M1 → lv_has ls 2 [(0, .ref (ad 0))] → va_P D cls (fl_w ad (yc ad cA) 41 v) H → va_S (fl_A ad 41) s.heap H locs → W p l e (headSpec w_MD_markAll ({ frames := 0, cells := 0, slots := 0, locals := 0 } : Room)).room s m ([.ref (ad 0)] : List Value).toArray below meth c H locs 0 0 (MQ below (va_Qv (fun M' => M' = (g_MD_markAll M)) (fl_E D cls ad (yc ad cA) 41) (fl_A ad 41)) ([.ref (ad 0)] : List Value).toArray s 0 0 (fl_A ad 41)) (F0 m 31 ls [])) → W p l e (headSpec w_MD_markAll ({ frames := 0, cells := 0, slots := 0, locals := 0 } : Room)).room s m ([.ref (ad 0)] : List Value).toArray below meth c H locs 0 0 (MQ below (va_Qv (fun M' => M' = (g_MD_markAll M)) (fl_E D cls ad (yc ad cA) 41) (fl_A ad 41)) ([.ref (ad 0)] : List Value).toArray s 0 0 (fl_A ad 41)) (F0 m 2 ls []) := by
    intro k_2
    induction k_2 with
    | zero =>
      intro i_2 M1 ls H locs hbd hI hl hP hS kk
      have hG : g_MD_markAll_L2  0 i_2 M1 = _ := g_MD_markAll_L2.eq_1 ..
      refine lv_iload_n hx hb d_MD_markAll_2 rfl (lv_at hl 1 rfl) ?_
      refine lv_aload_n hx hb d_MD_markAll_3 rfl (lv_at hl 0 rfl) ?_
      refine gg_MD (k := 30) (v := .int (M1.1 0 30)) hx hb hts hown hK hP  (hts _ (List.mem_cons_of_mem _ tw_811)) (by decide) rfl rfl d_MD_markAll_4 ?_
      refine lv_icmp_gt (tgt := 31) hx hb d_MD_markAll_7 (by decide) (fun _ => ?_) (fun h_1 => absurd (fl_ltn (b := (M.1 0 30).toNatClampNeg) ((congrFun hI 30).trans hu) (by omega) (by omega)) h_1)
      have hl := lv_sub (l' := [(0, .ref (ad 0))]) hl [0] rfl
      exact kk (M1) ls _ _ hG.symm hl hP hS
    | succ k_2 ih_2 =>
      intro i_2 M1 ls H locs hbd hI hl hP hS kk
      have hG : g_MD_markAll_L2  (k_2 + 1) i_2 M1 = _ := g_MD_markAll_L2.eq_2 ..
      refine lv_iload_n hx hb d_MD_markAll_2 rfl (lv_at hl 1 rfl) ?_
      refine lv_aload_n hx hb d_MD_markAll_3 rfl (lv_at hl 0 rfl) ?_
      refine gg_MD (k := 30) (v := .int (M1.1 0 30)) hx hb hts hown hK hP  (hts _ (List.mem_cons_of_mem _ tw_811)) (by decide) rfl rfl d_MD_markAll_4 ?_
      refine lv_icmp_gt (tgt := 31) hx hb d_MD_markAll_7 (by decide) (fun h_2 => absurd h_2 (fl_nltn (b := (M.1 0 30).toNatClampNeg) ((congrFun hI 30).trans hu) (by omega) (by omega))) (fun _ => ?_)
      refine lv_aload_n hx hb d_MD_markAll_10 rfl (lv_at hl 0 rfl) ?_
      refine gg_MD (k := 32) (v := .ref (ad 24)) hx hb hts hown hK hP  (hts _ (List.mem_cons_of_mem _ tw_813)) (by decide) rfl rfl d_MD_markAll_11 ?_
      refine lv_aload_n hx hb d_MD_markAll_14 rfl (lv_at hl 0 rfl) ?_
      refine gg_MD (k := 29) (v := .int (M1.1 0 29)) hx hb hts hown hK hP  (hts _ (List.mem_cons_of_mem _ tw_810)) (by decide) rfl rfl d_MD_markAll_15 ?_
      refine lv_iload_n hx hb d_MD_markAll_18 rfl (lv_at hl 1 rfl) ?_
      refine lv_isub hx hb d_MD_markAll_19 ?_
      refine lv_bipush (v := 15) hx hb d_MD_markAll_20 (by decide) ?_
      refine lv_iand hx hb d_MD_markAll_22 ?_
      refine lv_iconst (v := 1) hx hb d_MD_markAll_23 (by decide) ?_
      refine sg_Amarked hx hb hK hi hP hS  (rfl) (fl_in15 _) d_MD_markAll_24 (fun H locs hP hS => ?_)
      refine lv_iinc (k := 1) (v := nI (i_2 + 1)) (lv' := [(1, .int (nI (i_2 + 1))), (0, .ref (ad 0))]) hx hb d_MD_markAll_25 hl rfl (fl_inc _) (by decide) rfl (fun ls hl => ?_)
      refine lv_goto (tgt := 2) hx hb d_MD_markAll_28 (by decide) ?_
      have hl := lv_sub (l' := [(0, .ref (ad 0)), (1, .int (nI (i_2 + 1)))]) hl [1, 0] rfl
      exact ih_2 (i_2 + 1) (fl_i M1 24 ((((M1.1 0 29) - (nI i_2)) &&& 15).toNatClampNeg) 1) ls _ _ (by omega) (hI) hl hP hS (fun v ls H locs hv => kk v ls H locs (hv.trans hG.symm))
  have hl := lv_sub (l' := [(0, .ref (ad 0)), (1, .int (nI 1))]) hl [1, 0] rfl
  refine lp_2 ((M.1 0 30).toNatClampNeg) 1 M ls _ _ (by omega) (rfl) hl hP hS (fun v ls H locs hv hl hP hS => ?_)
  subst hv
  exact fl_vret hx hb hr hlocks hP hS (by rw [hG]) d_MD_markAll_31
theorem hd_MD_markAll : y_MD_markAll.cls ≠ "java/lang/invoke/MethodHandle" ∧ y_MD_markAll.cls ≠ "java/lang/invoke/VarHandle" ∧ (parseMethodDescriptor y_MD_markAll.desc).map (fun d => d.parameters.length) = some 0 := by decide +kernel
theorem kv_MD_markAll {R : Room} {s : State} {args : Array Value} {c0 : Cond} {own : String} {index : Nat} (hts : ∀ w ∈ c0 :: gw, w.before args s = true) (hl : (Cond.methodLink own index y_MD_markAll).before args s = true) (hR : 0 + 1 ≤ R.frames ∧ 8 + (2 + 11) + 0 ≤ R.locals) : CallW R s args own "FarLinkModel" index y_MD_markAll b_MD_markAll 2 none w_MD_markAll ({ frames := 0, cells := 0, slots := 0, locals := 0 } : Room) 0 0 0 := ⟨callB_of 0 hts (gw_in tw_1095) rfl rfl rfl (hts _ (List.mem_cons_of_mem _ tw_10)) hl hd_MD_markAll hR, hts _ (List.mem_cons_of_mem _ tw_1094), hts _ (List.mem_cons_of_mem _ ps_MD_markAll)⟩
def g_MD_frameClocks (M : fl_M) : fl_M :=
  if (M.1 0 28) = 0 then (if (M.1 0 30) = 0 then (M) else (if ((fl_i M 0 36 ((M.1 0 36) - 1)).1 0 36) ≤ 0 then (if ((fl_i M 0 36 ((M.1 0 36) - 1)).1 0 28) = 0 then (if ((fl_i M 0 36 ((M.1 0 36) - 1)).1 0 34) = 4 then ((g_MD_alert (fl_i M 0 36 ((M.1 0 36) - 1)) 2)) else (if ((fl_i (fl_i M 0 36 ((M.1 0 36) - 1)) 0 36 ((fl_i M 0 36 ((M.1 0 36) - 1)).1 0 1)).1 0 28) = 0 then ((g_MD_markAll (fl_i (fl_i (fl_i M 0 36 ((M.1 0 36) - 1)) 0 36 ((fl_i M 0 36 ((M.1 0 36) - 1)).1 0 1)) 0 34 (((fl_i (fl_i M 0 36 ((M.1 0 36) - 1)) 0 36 ((fl_i M 0 36 ((M.1 0 36) - 1)).1 0 1)).1 0 34) + 1)))) else ((fl_i (fl_i (fl_i M 0 36 ((M.1 0 36) - 1)) 0 36 ((fl_i M 0 36 ((M.1 0 36) - 1)).1 0 1)) 0 33 1)))) else (if ((fl_i (fl_i M 0 36 ((M.1 0 36) - 1)) 0 36 ((fl_i M 0 36 ((M.1 0 36) - 1)).1 0 1)).1 0 28) = 0 then ((g_MD_markAll (fl_i (fl_i (fl_i M 0 36 ((M.1 0 36) - 1)) 0 36 ((fl_i M 0 36 ((M.1 0 36) - 1)).1 0 1)) 0 34 (((fl_i (fl_i M 0 36 ((M.1 0 36) - 1)) 0 36 ((fl_i M 0 36 ((M.1 0 36) - 1)).1 0 1)).1 0 34) + 1)))) else ((fl_i (fl_i (fl_i M 0 36 ((M.1 0 36) - 1)) 0 36 ((fl_i M 0 36 ((M.1 0 36) - 1)).1 0 1)) 0 33 1)))) else ((fl_i M 0 36 ((M.1 0 36) - 1))))) else (if ((fl_i M 0 36 ((M.1 0 36) - 1)).1 0 36) ≤ 0 then (if ((fl_i M 0 36 ((M.1 0 36) - 1)).1 0 28) = 0 then (if ((fl_i M 0 36 ((M.1 0 36) - 1)).1 0 34) = 4 then ((g_MD_alert (fl_i M 0 36 ((M.1 0 36) - 1)) 2)) else (if ((fl_i (fl_i M 0 36 ((M.1 0 36) - 1)) 0 36 ((fl_i M 0 36 ((M.1 0 36) - 1)).1 0 1)).1 0 28) = 0 then ((g_MD_markAll (fl_i (fl_i (fl_i M 0 36 ((M.1 0 36) - 1)) 0 36 ((fl_i M 0 36 ((M.1 0 36) - 1)).1 0 1)) 0 34 (((fl_i (fl_i M 0 36 ((M.1 0 36) - 1)) 0 36 ((fl_i M 0 36 ((M.1 0 36) - 1)).1 0 1)).1 0 34) + 1)))) else ((fl_i (fl_i (fl_i M 0 36 ((M.1 0 36) - 1)) 0 36 ((fl_i M 0 36 ((M.1 0 36) - 1)).1 0 1)) 0 33 1)))) else (if ((fl_i (fl_i M 0 36 ((M.1 0 36) - 1)) 0 36 ((fl_i M 0 36 ((M.1 0 36) - 1)).1 0 1)).1 0 28) = 0 then ((g_MD_markAll (fl_i (fl_i (fl_i M 0 36 ((M.1 0 36) - 1)) 0 36 ((fl_i M 0 36 ((M.1 0 36) - 1)).1 0 1)) 0 34 (((fl_i (fl_i M 0 36 ((M.1 0 36) - 1)) 0 36 ((fl_i M 0 36 ((M.1 0 36) - 1)).1 0 1)).1 0 34) + 1)))) else ((fl_i (fl_i (fl_i M 0 36 ((M.1 0 36) - 1)) 0 36 ((fl_i M 0 36 ((M.1 0 36) - 1)).1 0 1)) 0 33 1)))) else ((fl_i M 0 36 ((M.1 0 36) - 1))))
set_option maxHeartbeats 400000 in
set_option maxRecDepth 100000 in
theorem c_MD_frameClocks (l : Launch) {D : va_G} {ad : Nat → Nat} {cA : Nat → ClassId} (hi : fl_inj ad 41) (M : fl_M) (hu : nn (M.1 0 30)) (hu16 : (M.1 0 30).toNatClampNeg ≤ 16) : Met l y_MD_frameClocks w_MD_frameClocks ({ frames := 1, cells := 0, slots := 0, locals := 21 } : Room) (va_Pc [.ref (ad 0)] (fl_B D cls (yt cA) ([] : fl_L) ([] : fl_FN) ([] : fl_MN) ad (yc ad cA) 41 M)) (va_Qv (fun M' => M' = (g_MD_frameClocks M)) (fl_E D cls ad (yc ad cA) 41) (fl_A ad 41)) 0 0 (fl_A ad 41) := by
  refine Met.ofW (cc := b_MD_frameClocks) (maxL := 1) (ret := none) (by decide) rfl ?_
  intro p e s m args below meth c s₁ B hml hv
  obtain ⟨rfl, hP, hK, hSt, hN⟩ := hv
  have hx := B.exec
  have hb := B.bytes
  have hr := B.returns
  have hts := atoms_spec (ws := w_MD_frameClocks) B.pre
  have hown : s.vm.findClass "FarLinkModel" = some m.cls := findClass_of_methodNamed B.named
  have hlocks := B.notSynchronized
  have hS : va_S (fl_A ad 41) s.heap s.heap [] := va_S.rf
  have hl := lv_entry ([.ref (ad 0)]) (n := 1) (Nat.le_of_ble_eq_true rfl)
  rw [lg_entry_eq]
  generalize (lg_sl ([.ref (ad 0)]) ++ List.replicate (1 - (lg_sl ([.ref (ad 0)])).length) Slot.unset).toArray = ls at hl ⊢
  have hl : lv_has ls 1 [(0, .ref (ad 0))] := hl
  have hG := g_MD_frameClocks.eq_1 M
  refine lv_aload_n hx hb d_MD_frameClocks_0 rfl (lv_at hl 0 rfl) ?_
  refine gg_MD (k := 28) (v := .int (M.1 0 28)) hx hb hts hown hK hP  (hts _ (List.mem_cons_of_mem _ tw_809)) (by decide) rfl rfl d_MD_frameClocks_1 ?_
  refine lv_if_ne (tgt := 15) hx hb d_MD_frameClocks_4 (by decide) (fun h_1 => ?_) (fun h_1 => ?_)
  ·
    have hG := hG.trans (if_neg h_1)
    refine lv_aload_n hx hb d_MD_frameClocks_15 rfl (lv_at hl 0 rfl) ?_
    refine lv_dup hx hb d_MD_frameClocks_16 rfl ?_
    refine gg_MD (k := 36) (v := .int (M.1 0 36)) hx hb hts hown hK hP  (hts _ (List.mem_cons_of_mem _ tw_817)) (by decide) rfl rfl d_MD_frameClocks_17 ?_
    refine lv_iconst (v := 1) hx hb d_MD_frameClocks_20 (by decide) ?_
    refine lv_isub hx hb d_MD_frameClocks_21 ?_
    refine pg_MD (k := 36) hx hb hts hown hK hi hP hS  (hts _ (List.mem_cons_of_mem _ tw_817)) (by decide) rfl rfl rfl rfl (Nat.le_of_ble_eq_true rfl) rfl d_MD_frameClocks_22 (fun H locs hP hS => ?_)
    refine lv_aload_n hx hb d_MD_frameClocks_25 rfl (lv_at hl 0 rfl) ?_
    refine gg_MD (k := 36) (v := .int ((fl_i M 0 36 ((M.1 0 36) - 1)).1 0 36)) hx hb hts hown hK hP  (hts _ (List.mem_cons_of_mem _ tw_817)) (by decide) rfl rfl d_MD_frameClocks_26 ?_
    refine lv_if_le (tgt := 33) hx hb d_MD_frameClocks_29 (by decide) (fun h_2 => ?_) (fun h_2 => ?_)
    ·
      have hG := hG.trans (if_pos h_2)
      refine lv_aload_n hx hb d_MD_frameClocks_33 rfl (lv_at hl 0 rfl) ?_
      refine gg_MD (k := 28) (v := .int ((fl_i M 0 36 ((M.1 0 36) - 1)).1 0 28)) hx hb hts hown hK hP  (hts _ (List.mem_cons_of_mem _ tw_809)) (by decide) rfl rfl d_MD_frameClocks_34 ?_
      refine lv_if_ne (tgt := 54) hx hb d_MD_frameClocks_37 (by decide) (fun h_3 => ?_) (fun h_3 => ?_)
      ·
        have hG := hG.trans (if_neg h_3)
        refine lv_aload_n hx hb d_MD_frameClocks_54 rfl (lv_at hl 0 rfl) ?_
        refine lv_aload_n hx hb d_MD_frameClocks_55 rfl (lv_at hl 0 rfl) ?_
        refine gg_MD (k := 1) (v := .int ((fl_i M 0 36 ((M.1 0 36) - 1)).1 0 1)) hx hb hts hown hK hP  (hts _ (List.mem_cons_of_mem _ tw_782)) (by decide) rfl rfl d_MD_frameClocks_56 ?_
        refine pg_MD (k := 36) hx hb hts hown hK hi hP hS  (hts _ (List.mem_cons_of_mem _ tw_817)) (by decide) rfl rfl rfl rfl (Nat.le_of_ble_eq_true rfl) rfl d_MD_frameClocks_59 (fun H locs hP hS => ?_)
        refine lv_aload_n hx hb d_MD_frameClocks_62 rfl (lv_at hl 0 rfl) ?_
        refine gg_MD (k := 28) (v := .int ((fl_i (fl_i M 0 36 ((M.1 0 36) - 1)) 0 36 ((fl_i M 0 36 ((M.1 0 36) - 1)).1 0 1)).1 0 28)) hx hb hts hown hK hP  (hts _ (List.mem_cons_of_mem _ tw_809)) (by decide) rfl rfl d_MD_frameClocks_63 ?_
        refine lv_if_eq (tgt := 77) hx hb d_MD_frameClocks_66 (by decide) (fun h_4 => ?_) (fun h_4 => ?_)
        ·
          have hG := hG.trans (if_pos h_4)
          refine lv_aload_n hx hb d_MD_frameClocks_77 rfl (lv_at hl 0 rfl) ?_
          refine lv_dup hx hb d_MD_frameClocks_78 rfl ?_
          refine gg_MD (k := 34) (v := .int ((fl_i (fl_i M 0 36 ((M.1 0 36) - 1)) 0 36 ((fl_i M 0 36 ((M.1 0 36) - 1)).1 0 1)).1 0 34)) hx hb hts hown hK hP  (hts _ (List.mem_cons_of_mem _ tw_815)) (by decide) rfl rfl d_MD_frameClocks_79 ?_
          refine lv_iconst (v := 1) hx hb d_MD_frameClocks_82 (by decide) ?_
          refine lv_iadd hx hb d_MD_frameClocks_83 ?_
          refine pg_MD (k := 34) hx hb hts hown hK hi hP hS  (hts _ (List.mem_cons_of_mem _ tw_815)) (by decide) rfl rfl rfl rfl (Nat.le_of_ble_eq_true rfl) rfl d_MD_frameClocks_84 (fun H locs hP hS => ?_)
          refine lv_aload_n hx hb d_MD_frameClocks_87 rfl (lv_at hl 0 rfl) ?_
          refine fl_callv (va_runV (As := []) (rest := []) ⟨hx, hb, hml, hown, hts⟩ (c_MD_markAll l hi (fl_i (fl_i (fl_i M 0 36 ((M.1 0 36) - 1)) 0 36 ((fl_i M 0 36 ((M.1 0 36) - 1)).1 0 1)) 0 34 (((fl_i (fl_i M 0 36 ((M.1 0 36) - 1)) 0 36 ((fl_i M 0 36 ((M.1 0 36) - 1)).1 0 1)).1 0 34) + 1)) (by assumption) (by assumption)) (kv_MD_markAll hts (hts _ (List.mem_cons_of_mem _ tw_1092)) ⟨Nat.le_of_ble_eq_true rfl, Nat.le_of_ble_eq_true rfl⟩) (fl_preV hK hSt hN hS hP (by decide) (kg_MD) rfl) rfl rfl hl.1 rfl (lv_room (Nat.le_of_ble_eq_true rfl)) d_MD_frameClocks_88 ⟨Nat.zero_le _, Nat.zero_le _⟩) hS (fun H locs hP hS => ?_)
          exact fl_vret hx hb hr hlocks hP hS (by rw [hG]) d_MD_frameClocks_91
        ·
          have hG := hG.trans (if_neg h_4)
          refine lv_aload_n hx hb d_MD_frameClocks_69 rfl (lv_at hl 0 rfl) ?_
          refine lv_iconst (v := 1) hx hb d_MD_frameClocks_70 (by decide) ?_
          refine pg_MD (k := 33) hx hb hts hown hK hi hP hS  (hts _ (List.mem_cons_of_mem _ tw_814)) (by decide) rfl rfl (rfl) (rfl) (Nat.le_of_ble_eq_true rfl) rfl d_MD_frameClocks_71 (fun H locs hP hS => ?_)
          refine lv_goto (tgt := 91) hx hb d_MD_frameClocks_74 (by decide) ?_
          exact fl_vret hx hb hr hlocks hP hS (by rw [hG]) d_MD_frameClocks_91
      ·
        have hG := hG.trans (if_pos h_3)
        refine lv_aload_n hx hb d_MD_frameClocks_40 rfl (lv_at hl 0 rfl) ?_
        refine gg_MD (k := 34) (v := .int ((fl_i M 0 36 ((M.1 0 36) - 1)).1 0 34)) hx hb hts hown hK hP  (hts _ (List.mem_cons_of_mem _ tw_815)) (by decide) rfl rfl d_MD_frameClocks_41 ?_
        refine lv_iconst (v := 4) hx hb d_MD_frameClocks_44 (by decide) ?_
        refine lv_icmp_ne (tgt := 54) hx hb d_MD_frameClocks_45 (by decide) (fun h_5 => ?_) (fun h_5 => ?_)
        ·
          have hG := hG.trans (if_neg h_5)
          refine lv_aload_n hx hb d_MD_frameClocks_54 rfl (lv_at hl 0 rfl) ?_
          refine lv_aload_n hx hb d_MD_frameClocks_55 rfl (lv_at hl 0 rfl) ?_
          refine gg_MD (k := 1) (v := .int ((fl_i M 0 36 ((M.1 0 36) - 1)).1 0 1)) hx hb hts hown hK hP  (hts _ (List.mem_cons_of_mem _ tw_782)) (by decide) rfl rfl d_MD_frameClocks_56 ?_
          refine pg_MD (k := 36) hx hb hts hown hK hi hP hS  (hts _ (List.mem_cons_of_mem _ tw_817)) (by decide) rfl rfl rfl rfl (Nat.le_of_ble_eq_true rfl) rfl d_MD_frameClocks_59 (fun H locs hP hS => ?_)
          refine lv_aload_n hx hb d_MD_frameClocks_62 rfl (lv_at hl 0 rfl) ?_
          refine gg_MD (k := 28) (v := .int ((fl_i (fl_i M 0 36 ((M.1 0 36) - 1)) 0 36 ((fl_i M 0 36 ((M.1 0 36) - 1)).1 0 1)).1 0 28)) hx hb hts hown hK hP  (hts _ (List.mem_cons_of_mem _ tw_809)) (by decide) rfl rfl d_MD_frameClocks_63 ?_
          refine lv_if_eq (tgt := 77) hx hb d_MD_frameClocks_66 (by decide) (fun h_6 => ?_) (fun h_6 => ?_)
          ·
            have hG := hG.trans (if_pos h_6)
            refine lv_aload_n hx hb d_MD_frameClocks_77 rfl (lv_at hl 0 rfl) ?_
            refine lv_dup hx hb d_MD_frameClocks_78 rfl ?_
            refine gg_MD (k := 34) (v := .int ((fl_i (fl_i M 0 36 ((M.1 0 36) - 1)) 0 36 ((fl_i M 0 36 ((M.1 0 36) - 1)).1 0 1)).1 0 34)) hx hb hts hown hK hP  (hts _ (List.mem_cons_of_mem _ tw_815)) (by decide) rfl rfl d_MD_frameClocks_79 ?_
            refine lv_iconst (v := 1) hx hb d_MD_frameClocks_82 (by decide) ?_
            refine lv_iadd hx hb d_MD_frameClocks_83 ?_
            refine pg_MD (k := 34) hx hb hts hown hK hi hP hS  (hts _ (List.mem_cons_of_mem _ tw_815)) (by decide) rfl rfl rfl rfl (Nat.le_of_ble_eq_true rfl) rfl d_MD_frameClocks_84 (fun H locs hP hS => ?_)
            refine lv_aload_n hx hb d_MD_frameClocks_87 rfl (lv_at hl 0 rfl) ?_
            refine fl_callv (va_runV (As := []) (rest := []) ⟨hx, hb, hml, hown, hts⟩ (c_MD_markAll l hi (fl_i (fl_i (fl_i M 0 36 ((M.1 0 36) - 1)) 0 36 ((fl_i M 0 36 ((M.1 0 36) - 1)).1 0 1)) 0 34 (((fl_i (fl_i M 0 36 ((M.1 0 36) - 1)) 0 36 ((fl_i M 0 36 ((M.1 0 36) - 1)).1 0 1)).1 0 34) + 1)) (by assumption) (by assumption)) (kv_MD_markAll hts (hts _ (List.mem_cons_of_mem _ tw_1092)) ⟨Nat.le_of_ble_eq_true rfl, Nat.le_of_ble_eq_true rfl⟩) (fl_preV hK hSt hN hS hP (by decide) (kg_MD) rfl) rfl rfl hl.1 rfl (lv_room (Nat.le_of_ble_eq_true rfl)) d_MD_frameClocks_88 ⟨Nat.zero_le _, Nat.zero_le _⟩) hS (fun H locs hP hS => ?_)
            exact fl_vret hx hb hr hlocks hP hS (by rw [hG]) d_MD_frameClocks_91
          ·
            have hG := hG.trans (if_neg h_6)
            refine lv_aload_n hx hb d_MD_frameClocks_69 rfl (lv_at hl 0 rfl) ?_
            refine lv_iconst (v := 1) hx hb d_MD_frameClocks_70 (by decide) ?_
            refine pg_MD (k := 33) hx hb hts hown hK hi hP hS  (hts _ (List.mem_cons_of_mem _ tw_814)) (by decide) rfl rfl (rfl) (rfl) (Nat.le_of_ble_eq_true rfl) rfl d_MD_frameClocks_71 (fun H locs hP hS => ?_)
            refine lv_goto (tgt := 91) hx hb d_MD_frameClocks_74 (by decide) ?_
            exact fl_vret hx hb hr hlocks hP hS (by rw [hG]) d_MD_frameClocks_91
        ·
          have hG := hG.trans (if_pos h_5)
          refine lv_aload_n hx hb d_MD_frameClocks_48 rfl (lv_at hl 0 rfl) ?_
          refine lv_iconst (v := 2) hx hb d_MD_frameClocks_49 (by decide) ?_
          refine fl_callv (va_runV (As := [.int 2]) (rest := []) ⟨hx, hb, hml, hown, hts⟩ (c_MD_alert l hi (fl_i M 0 36 ((M.1 0 36) - 1)) 2) (kv_MD_alert hts (hts _ (List.mem_cons_of_mem _ tw_1088)) ⟨Nat.le_of_ble_eq_true rfl, Nat.le_of_ble_eq_true rfl⟩) (fl_preV hK hSt hN hS hP (by decide) (kg_MD) rfl) rfl rfl hl.1 rfl (lv_room (Nat.le_of_ble_eq_true rfl)) d_MD_frameClocks_50 ⟨Nat.zero_le _, Nat.zero_le _⟩) hS (fun H locs hP hS => ?_)
          exact fl_vret hx hb hr hlocks hP hS (by rw [hG]) d_MD_frameClocks_53
    ·
      have hG := hG.trans (if_neg h_2)
      exact fl_vret hx hb hr hlocks hP hS (by rw [hG]) d_MD_frameClocks_32
  ·
    have hG := hG.trans (if_pos h_1)
    refine lv_aload_n hx hb d_MD_frameClocks_7 rfl (lv_at hl 0 rfl) ?_
    refine gg_MD (k := 30) (v := .int (M.1 0 30)) hx hb hts hown hK hP  (hts _ (List.mem_cons_of_mem _ tw_811)) (by decide) rfl rfl d_MD_frameClocks_8 ?_
    refine lv_if_ne (tgt := 15) hx hb d_MD_frameClocks_11 (by decide) (fun h_7 => ?_) (fun h_7 => ?_)
    ·
      have hG := hG.trans (if_neg h_7)
      refine lv_aload_n hx hb d_MD_frameClocks_15 rfl (lv_at hl 0 rfl) ?_
      refine lv_dup hx hb d_MD_frameClocks_16 rfl ?_
      refine gg_MD (k := 36) (v := .int (M.1 0 36)) hx hb hts hown hK hP  (hts _ (List.mem_cons_of_mem _ tw_817)) (by decide) rfl rfl d_MD_frameClocks_17 ?_
      refine lv_iconst (v := 1) hx hb d_MD_frameClocks_20 (by decide) ?_
      refine lv_isub hx hb d_MD_frameClocks_21 ?_
      refine pg_MD (k := 36) hx hb hts hown hK hi hP hS  (hts _ (List.mem_cons_of_mem _ tw_817)) (by decide) rfl rfl rfl rfl (Nat.le_of_ble_eq_true rfl) rfl d_MD_frameClocks_22 (fun H locs hP hS => ?_)
      refine lv_aload_n hx hb d_MD_frameClocks_25 rfl (lv_at hl 0 rfl) ?_
      refine gg_MD (k := 36) (v := .int ((fl_i M 0 36 ((M.1 0 36) - 1)).1 0 36)) hx hb hts hown hK hP  (hts _ (List.mem_cons_of_mem _ tw_817)) (by decide) rfl rfl d_MD_frameClocks_26 ?_
      refine lv_if_le (tgt := 33) hx hb d_MD_frameClocks_29 (by decide) (fun h_8 => ?_) (fun h_8 => ?_)
      ·
        have hG := hG.trans (if_pos h_8)
        refine lv_aload_n hx hb d_MD_frameClocks_33 rfl (lv_at hl 0 rfl) ?_
        refine gg_MD (k := 28) (v := .int ((fl_i M 0 36 ((M.1 0 36) - 1)).1 0 28)) hx hb hts hown hK hP  (hts _ (List.mem_cons_of_mem _ tw_809)) (by decide) rfl rfl d_MD_frameClocks_34 ?_
        refine lv_if_ne (tgt := 54) hx hb d_MD_frameClocks_37 (by decide) (fun h_9 => ?_) (fun h_9 => ?_)
        ·
          have hG := hG.trans (if_neg h_9)
          refine lv_aload_n hx hb d_MD_frameClocks_54 rfl (lv_at hl 0 rfl) ?_
          refine lv_aload_n hx hb d_MD_frameClocks_55 rfl (lv_at hl 0 rfl) ?_
          refine gg_MD (k := 1) (v := .int ((fl_i M 0 36 ((M.1 0 36) - 1)).1 0 1)) hx hb hts hown hK hP  (hts _ (List.mem_cons_of_mem _ tw_782)) (by decide) rfl rfl d_MD_frameClocks_56 ?_
          refine pg_MD (k := 36) hx hb hts hown hK hi hP hS  (hts _ (List.mem_cons_of_mem _ tw_817)) (by decide) rfl rfl rfl rfl (Nat.le_of_ble_eq_true rfl) rfl d_MD_frameClocks_59 (fun H locs hP hS => ?_)
          refine lv_aload_n hx hb d_MD_frameClocks_62 rfl (lv_at hl 0 rfl) ?_
          refine gg_MD (k := 28) (v := .int ((fl_i (fl_i M 0 36 ((M.1 0 36) - 1)) 0 36 ((fl_i M 0 36 ((M.1 0 36) - 1)).1 0 1)).1 0 28)) hx hb hts hown hK hP  (hts _ (List.mem_cons_of_mem _ tw_809)) (by decide) rfl rfl d_MD_frameClocks_63 ?_
          refine lv_if_eq (tgt := 77) hx hb d_MD_frameClocks_66 (by decide) (fun h_10 => ?_) (fun h_10 => ?_)
          ·
            have hG := hG.trans (if_pos h_10)
            refine lv_aload_n hx hb d_MD_frameClocks_77 rfl (lv_at hl 0 rfl) ?_
            refine lv_dup hx hb d_MD_frameClocks_78 rfl ?_
            refine gg_MD (k := 34) (v := .int ((fl_i (fl_i M 0 36 ((M.1 0 36) - 1)) 0 36 ((fl_i M 0 36 ((M.1 0 36) - 1)).1 0 1)).1 0 34)) hx hb hts hown hK hP  (hts _ (List.mem_cons_of_mem _ tw_815)) (by decide) rfl rfl d_MD_frameClocks_79 ?_
            refine lv_iconst (v := 1) hx hb d_MD_frameClocks_82 (by decide) ?_
            refine lv_iadd hx hb d_MD_frameClocks_83 ?_
            refine pg_MD (k := 34) hx hb hts hown hK hi hP hS  (hts _ (List.mem_cons_of_mem _ tw_815)) (by decide) rfl rfl rfl rfl (Nat.le_of_ble_eq_true rfl) rfl d_MD_frameClocks_84 (fun H locs hP hS => ?_)
            refine lv_aload_n hx hb d_MD_frameClocks_87 rfl (lv_at hl 0 rfl) ?_
            refine fl_callv (va_runV (As := []) (rest := []) ⟨hx, hb, hml, hown, hts⟩ (c_MD_markAll l hi (fl_i (fl_i (fl_i M 0 36 ((M.1 0 36) - 1)) 0 36 ((fl_i M 0 36 ((M.1 0 36) - 1)).1 0 1)) 0 34 (((fl_i (fl_i M 0 36 ((M.1 0 36) - 1)) 0 36 ((fl_i M 0 36 ((M.1 0 36) - 1)).1 0 1)).1 0 34) + 1)) (by assumption) (by assumption)) (kv_MD_markAll hts (hts _ (List.mem_cons_of_mem _ tw_1092)) ⟨Nat.le_of_ble_eq_true rfl, Nat.le_of_ble_eq_true rfl⟩) (fl_preV hK hSt hN hS hP (by decide) (kg_MD) rfl) rfl rfl hl.1 rfl (lv_room (Nat.le_of_ble_eq_true rfl)) d_MD_frameClocks_88 ⟨Nat.zero_le _, Nat.zero_le _⟩) hS (fun H locs hP hS => ?_)
            exact fl_vret hx hb hr hlocks hP hS (by rw [hG]) d_MD_frameClocks_91
          ·
            have hG := hG.trans (if_neg h_10)
            refine lv_aload_n hx hb d_MD_frameClocks_69 rfl (lv_at hl 0 rfl) ?_
            refine lv_iconst (v := 1) hx hb d_MD_frameClocks_70 (by decide) ?_
            refine pg_MD (k := 33) hx hb hts hown hK hi hP hS  (hts _ (List.mem_cons_of_mem _ tw_814)) (by decide) rfl rfl (rfl) (rfl) (Nat.le_of_ble_eq_true rfl) rfl d_MD_frameClocks_71 (fun H locs hP hS => ?_)
            refine lv_goto (tgt := 91) hx hb d_MD_frameClocks_74 (by decide) ?_
            exact fl_vret hx hb hr hlocks hP hS (by rw [hG]) d_MD_frameClocks_91
        ·
          have hG := hG.trans (if_pos h_9)
          refine lv_aload_n hx hb d_MD_frameClocks_40 rfl (lv_at hl 0 rfl) ?_
          refine gg_MD (k := 34) (v := .int ((fl_i M 0 36 ((M.1 0 36) - 1)).1 0 34)) hx hb hts hown hK hP  (hts _ (List.mem_cons_of_mem _ tw_815)) (by decide) rfl rfl d_MD_frameClocks_41 ?_
          refine lv_iconst (v := 4) hx hb d_MD_frameClocks_44 (by decide) ?_
          refine lv_icmp_ne (tgt := 54) hx hb d_MD_frameClocks_45 (by decide) (fun h_11 => ?_) (fun h_11 => ?_)
          ·
            have hG := hG.trans (if_neg h_11)
            refine lv_aload_n hx hb d_MD_frameClocks_54 rfl (lv_at hl 0 rfl) ?_
            refine lv_aload_n hx hb d_MD_frameClocks_55 rfl (lv_at hl 0 rfl) ?_
            refine gg_MD (k := 1) (v := .int ((fl_i M 0 36 ((M.1 0 36) - 1)).1 0 1)) hx hb hts hown hK hP  (hts _ (List.mem_cons_of_mem _ tw_782)) (by decide) rfl rfl d_MD_frameClocks_56 ?_
            refine pg_MD (k := 36) hx hb hts hown hK hi hP hS  (hts _ (List.mem_cons_of_mem _ tw_817)) (by decide) rfl rfl rfl rfl (Nat.le_of_ble_eq_true rfl) rfl d_MD_frameClocks_59 (fun H locs hP hS => ?_)
            refine lv_aload_n hx hb d_MD_frameClocks_62 rfl (lv_at hl 0 rfl) ?_
            refine gg_MD (k := 28) (v := .int ((fl_i (fl_i M 0 36 ((M.1 0 36) - 1)) 0 36 ((fl_i M 0 36 ((M.1 0 36) - 1)).1 0 1)).1 0 28)) hx hb hts hown hK hP  (hts _ (List.mem_cons_of_mem _ tw_809)) (by decide) rfl rfl d_MD_frameClocks_63 ?_
            refine lv_if_eq (tgt := 77) hx hb d_MD_frameClocks_66 (by decide) (fun h_12 => ?_) (fun h_12 => ?_)
            ·
              have hG := hG.trans (if_pos h_12)
              refine lv_aload_n hx hb d_MD_frameClocks_77 rfl (lv_at hl 0 rfl) ?_
              refine lv_dup hx hb d_MD_frameClocks_78 rfl ?_
              refine gg_MD (k := 34) (v := .int ((fl_i (fl_i M 0 36 ((M.1 0 36) - 1)) 0 36 ((fl_i M 0 36 ((M.1 0 36) - 1)).1 0 1)).1 0 34)) hx hb hts hown hK hP  (hts _ (List.mem_cons_of_mem _ tw_815)) (by decide) rfl rfl d_MD_frameClocks_79 ?_
              refine lv_iconst (v := 1) hx hb d_MD_frameClocks_82 (by decide) ?_
              refine lv_iadd hx hb d_MD_frameClocks_83 ?_
              refine pg_MD (k := 34) hx hb hts hown hK hi hP hS  (hts _ (List.mem_cons_of_mem _ tw_815)) (by decide) rfl rfl rfl rfl (Nat.le_of_ble_eq_true rfl) rfl d_MD_frameClocks_84 (fun H locs hP hS => ?_)
              refine lv_aload_n hx hb d_MD_frameClocks_87 rfl (lv_at hl 0 rfl) ?_
              refine fl_callv (va_runV (As := []) (rest := []) ⟨hx, hb, hml, hown, hts⟩ (c_MD_markAll l hi (fl_i (fl_i (fl_i M 0 36 ((M.1 0 36) - 1)) 0 36 ((fl_i M 0 36 ((M.1 0 36) - 1)).1 0 1)) 0 34 (((fl_i (fl_i M 0 36 ((M.1 0 36) - 1)) 0 36 ((fl_i M 0 36 ((M.1 0 36) - 1)).1 0 1)).1 0 34) + 1)) (by assumption) (by assumption)) (kv_MD_markAll hts (hts _ (List.mem_cons_of_mem _ tw_1092)) ⟨Nat.le_of_ble_eq_true rfl, Nat.le_of_ble_eq_true rfl⟩) (fl_preV hK hSt hN hS hP (by decide) (kg_MD) rfl) rfl rfl hl.1 rfl (lv_room (Nat.le_of_ble_eq_true rfl)) d_MD_frameClocks_88 ⟨Nat.zero_le _, Nat.zero_le _⟩) hS (fun H locs hP hS => ?_)
              exact fl_vret hx hb hr hlocks hP hS (by rw [hG]) d_MD_frameClocks_91
            ·
              have hG := hG.trans (if_neg h_12)
              refine lv_aload_n hx hb d_MD_frameClocks_69 rfl (lv_at hl 0 rfl) ?_
              refine lv_iconst (v := 1) hx hb d_MD_frameClocks_70 (by decide) ?_
              refine pg_MD (k := 33) hx hb hts hown hK hi hP hS  (hts _ (List.mem_cons_of_mem _ tw_814)) (by decide) rfl rfl (rfl) (rfl) (Nat.le_of_ble_eq_true rfl) rfl d_MD_frameClocks_71 (fun H locs hP hS => ?_)
              refine lv_goto (tgt := 91) hx hb d_MD_frameClocks_74 (by decide) ?_
              exact fl_vret hx hb hr hlocks hP hS (by rw [hG]) d_MD_frameClocks_91
          ·
            have hG := hG.trans (if_pos h_11)
            refine lv_aload_n hx hb d_MD_frameClocks_48 rfl (lv_at hl 0 rfl) ?_
            refine lv_iconst (v := 2) hx hb d_MD_frameClocks_49 (by decide) ?_
            refine fl_callv (va_runV (As := [.int 2]) (rest := []) ⟨hx, hb, hml, hown, hts⟩ (c_MD_alert l hi (fl_i M 0 36 ((M.1 0 36) - 1)) 2) (kv_MD_alert hts (hts _ (List.mem_cons_of_mem _ tw_1088)) ⟨Nat.le_of_ble_eq_true rfl, Nat.le_of_ble_eq_true rfl⟩) (fl_preV hK hSt hN hS hP (by decide) (kg_MD) rfl) rfl rfl hl.1 rfl (lv_room (Nat.le_of_ble_eq_true rfl)) d_MD_frameClocks_50 ⟨Nat.zero_le _, Nat.zero_le _⟩) hS (fun H locs hP hS => ?_)
            exact fl_vret hx hb hr hlocks hP hS (by rw [hG]) d_MD_frameClocks_53
      ·
        have hG := hG.trans (if_neg h_8)
        exact fl_vret hx hb hr hlocks hP hS (by rw [hG]) d_MD_frameClocks_32
    ·
      have hG := hG.trans (if_pos h_7)
      exact fl_vret hx hb hr hlocks hP hS (by rw [hG]) d_MD_frameClocks_14
theorem hd_MD_frameClocks : y_MD_frameClocks.cls ≠ "java/lang/invoke/MethodHandle" ∧ y_MD_frameClocks.cls ≠ "java/lang/invoke/VarHandle" ∧ (parseMethodDescriptor y_MD_frameClocks.desc).map (fun d => d.parameters.length) = some 0 := by decide +kernel
theorem kv_MD_frameClocks {R : Room} {s : State} {args : Array Value} {c0 : Cond} {own : String} {index : Nat} (hts : ∀ w ∈ c0 :: gw, w.before args s = true) (hl : (Cond.methodLink own index y_MD_frameClocks).before args s = true) (hR : 1 + 1 ≤ R.frames ∧ 8 + (1 + 11) + 21 ≤ R.locals) : CallW R s args own "FarLinkModel" index y_MD_frameClocks b_MD_frameClocks 1 none w_MD_frameClocks ({ frames := 1, cells := 0, slots := 0, locals := 21 } : Room) 0 0 0 := ⟨callB_of 0 hts (gw_in tw_1109) rfl rfl rfl (hts _ (List.mem_cons_of_mem _ tw_10)) hl hd_MD_frameClocks hR, hts _ (List.mem_cons_of_mem _ tw_1108), hts _ (List.mem_cons_of_mem _ ps_MD_frameClocks)⟩
def g_MD_activeReport (M : fl_M) (x1 : Int32) (x2 : Int32) (x3 : Int32) : fl_M :=
  if x2 = 0 then (if ((x1 - ((M.1 0 29) - (M.1 0 30))) &&& 15) ≤ (M.1 0 30) then (if ((x1 - ((M.1 0 29) - (M.1 0 30))) &&& 15) ≤ 0 then (if x3 = 0 then ((fl_i (fl_i M 0 30 ((M.1 0 30) - ((x1 - ((M.1 0 29) - (M.1 0 30))) &&& 15))) 0 35 0)) else (if ((fl_i M 0 30 ((M.1 0 30) - ((x1 - ((M.1 0 29) - (M.1 0 30))) &&& 15))).1 0 30) ≤ 0 then ((fl_i M 0 30 ((M.1 0 30) - ((x1 - ((M.1 0 29) - (M.1 0 30))) &&& 15)))) else (if 0 < ((x1 - ((M.1 0 29) - (M.1 0 30))) &&& 15) then (if ((x1 - ((M.1 0 29) - (M.1 0 30))) &&& 15) = 0 then (if ((fl_i M 0 30 ((M.1 0 30) - ((x1 - ((M.1 0 29) - (M.1 0 30))) &&& 15))).1 0 34) = 4 then ((g_MD_alert (fl_i M 0 30 ((M.1 0 30) - ((x1 - ((M.1 0 29) - (M.1 0 30))) &&& 15))) 2)) else ((fl_i (fl_i (g_MD_markAll (fl_i (fl_i M 0 30 ((M.1 0 30) - ((x1 - ((M.1 0 29) - (M.1 0 30))) &&& 15))) 0 34 (((fl_i M 0 30 ((M.1 0 30) - ((x1 - ((M.1 0 29) - (M.1 0 30))) &&& 15))).1 0 34) + 1))) 0 35 1) 0 36 ((fl_i (g_MD_markAll (fl_i (fl_i M 0 30 ((M.1 0 30) - ((x1 - ((M.1 0 29) - (M.1 0 30))) &&& 15))) 0 34 (((fl_i M 0 30 ((M.1 0 30) - ((x1 - ((M.1 0 29) - (M.1 0 30))) &&& 15))).1 0 34) + 1))) 0 35 1).1 0 1)))) else ((fl_i (fl_i (g_MD_markAll (fl_i (fl_i M 0 30 ((M.1 0 30) - ((x1 - ((M.1 0 29) - (M.1 0 30))) &&& 15))) 0 34 ((fl_i M 0 30 ((M.1 0 30) - ((x1 - ((M.1 0 29) - (M.1 0 30))) &&& 15))).1 0 34))) 0 35 1) 0 36 ((fl_i (g_MD_markAll (fl_i (fl_i M 0 30 ((M.1 0 30) - ((x1 - ((M.1 0 29) - (M.1 0 30))) &&& 15))) 0 34 ((fl_i M 0 30 ((M.1 0 30) - ((x1 - ((M.1 0 29) - (M.1 0 30))) &&& 15))).1 0 34))) 0 35 1).1 0 1)))) else (if ((fl_i M 0 30 ((M.1 0 30) - ((x1 - ((M.1 0 29) - (M.1 0 30))) &&& 15))).1 0 35) = 0 then (if ((x1 - ((M.1 0 29) - (M.1 0 30))) &&& 15) = 0 then (if ((fl_i M 0 30 ((M.1 0 30) - ((x1 - ((M.1 0 29) - (M.1 0 30))) &&& 15))).1 0 34) = 4 then ((g_MD_alert (fl_i M 0 30 ((M.1 0 30) - ((x1 - ((M.1 0 29) - (M.1 0 30))) &&& 15))) 2)) else ((fl_i (fl_i (g_MD_markAll (fl_i (fl_i M 0 30 ((M.1 0 30) - ((x1 - ((M.1 0 29) - (M.1 0 30))) &&& 15))) 0 34 (((fl_i M 0 30 ((M.1 0 30) - ((x1 - ((M.1 0 29) - (M.1 0 30))) &&& 15))).1 0 34) + 1))) 0 35 1) 0 36 ((fl_i (g_MD_markAll (fl_i (fl_i M 0 30 ((M.1 0 30) - ((x1 - ((M.1 0 29) - (M.1 0 30))) &&& 15))) 0 34 (((fl_i M 0 30 ((M.1 0 30) - ((x1 - ((M.1 0 29) - (M.1 0 30))) &&& 15))).1 0 34) + 1))) 0 35 1).1 0 1)))) else ((fl_i (fl_i (g_MD_markAll (fl_i (fl_i M 0 30 ((M.1 0 30) - ((x1 - ((M.1 0 29) - (M.1 0 30))) &&& 15))) 0 34 ((fl_i M 0 30 ((M.1 0 30) - ((x1 - ((M.1 0 29) - (M.1 0 30))) &&& 15))).1 0 34))) 0 35 1) 0 36 ((fl_i (g_MD_markAll (fl_i (fl_i M 0 30 ((M.1 0 30) - ((x1 - ((M.1 0 29) - (M.1 0 30))) &&& 15))) 0 34 ((fl_i M 0 30 ((M.1 0 30) - ((x1 - ((M.1 0 29) - (M.1 0 30))) &&& 15))).1 0 34))) 0 35 1).1 0 1)))) else ((fl_i M 0 30 ((M.1 0 30) - ((x1 - ((M.1 0 29) - (M.1 0 30))) &&& 15)))))))) else (if x3 = 0 then ((fl_i (fl_i (fl_i (fl_i M 0 30 ((M.1 0 30) - ((x1 - ((M.1 0 29) - (M.1 0 30))) &&& 15))) 0 34 1) 0 36 ((fl_i (fl_i M 0 30 ((M.1 0 30) - ((x1 - ((M.1 0 29) - (M.1 0 30))) &&& 15))) 0 34 1).1 0 1)) 0 35 0)) else (if ((fl_i (fl_i (fl_i M 0 30 ((M.1 0 30) - ((x1 - ((M.1 0 29) - (M.1 0 30))) &&& 15))) 0 34 1) 0 36 ((fl_i (fl_i M 0 30 ((M.1 0 30) - ((x1 - ((M.1 0 29) - (M.1 0 30))) &&& 15))) 0 34 1).1 0 1)).1 0 30) ≤ 0 then ((fl_i (fl_i (fl_i M 0 30 ((M.1 0 30) - ((x1 - ((M.1 0 29) - (M.1 0 30))) &&& 15))) 0 34 1) 0 36 ((fl_i (fl_i M 0 30 ((M.1 0 30) - ((x1 - ((M.1 0 29) - (M.1 0 30))) &&& 15))) 0 34 1).1 0 1))) else (if 0 < ((x1 - ((M.1 0 29) - (M.1 0 30))) &&& 15) then (if ((x1 - ((M.1 0 29) - (M.1 0 30))) &&& 15) = 0 then (if ((fl_i (fl_i (fl_i M 0 30 ((M.1 0 30) - ((x1 - ((M.1 0 29) - (M.1 0 30))) &&& 15))) 0 34 1) 0 36 ((fl_i (fl_i M 0 30 ((M.1 0 30) - ((x1 - ((M.1 0 29) - (M.1 0 30))) &&& 15))) 0 34 1).1 0 1)).1 0 34) = 4 then ((g_MD_alert (fl_i (fl_i (fl_i M 0 30 ((M.1 0 30) - ((x1 - ((M.1 0 29) - (M.1 0 30))) &&& 15))) 0 34 1) 0 36 ((fl_i (fl_i M 0 30 ((M.1 0 30) - ((x1 - ((M.1 0 29) - (M.1 0 30))) &&& 15))) 0 34 1).1 0 1)) 2)) else ((fl_i (fl_i (g_MD_markAll (fl_i (fl_i (fl_i (fl_i M 0 30 ((M.1 0 30) - ((x1 - ((M.1 0 29) - (M.1 0 30))) &&& 15))) 0 34 1) 0 36 ((fl_i (fl_i M 0 30 ((M.1 0 30) - ((x1 - ((M.1 0 29) - (M.1 0 30))) &&& 15))) 0 34 1).1 0 1)) 0 34 (((fl_i (fl_i (fl_i M 0 30 ((M.1 0 30) - ((x1 - ((M.1 0 29) - (M.1 0 30))) &&& 15))) 0 34 1) 0 36 ((fl_i (fl_i M 0 30 ((M.1 0 30) - ((x1 - ((M.1 0 29) - (M.1 0 30))) &&& 15))) 0 34 1).1 0 1)).1 0 34) + 1))) 0 35 1) 0 36 ((fl_i (g_MD_markAll (fl_i (fl_i (fl_i (fl_i M 0 30 ((M.1 0 30) - ((x1 - ((M.1 0 29) - (M.1 0 30))) &&& 15))) 0 34 1) 0 36 ((fl_i (fl_i M 0 30 ((M.1 0 30) - ((x1 - ((M.1 0 29) - (M.1 0 30))) &&& 15))) 0 34 1).1 0 1)) 0 34 (((fl_i (fl_i (fl_i M 0 30 ((M.1 0 30) - ((x1 - ((M.1 0 29) - (M.1 0 30))) &&& 15))) 0 34 1) 0 36 ((fl_i (fl_i M 0 30 ((M.1 0 30) - ((x1 - ((M.1 0 29) - (M.1 0 30))) &&& 15))) 0 34 1).1 0 1)).1 0 34) + 1))) 0 35 1).1 0 1)))) else ((fl_i (fl_i (g_MD_markAll (fl_i (fl_i (fl_i (fl_i M 0 30 ((M.1 0 30) - ((x1 - ((M.1 0 29) - (M.1 0 30))) &&& 15))) 0 34 1) 0 36 ((fl_i (fl_i M 0 30 ((M.1 0 30) - ((x1 - ((M.1 0 29) - (M.1 0 30))) &&& 15))) 0 34 1).1 0 1)) 0 34 ((fl_i (fl_i (fl_i M 0 30 ((M.1 0 30) - ((x1 - ((M.1 0 29) - (M.1 0 30))) &&& 15))) 0 34 1) 0 36 ((fl_i (fl_i M 0 30 ((M.1 0 30) - ((x1 - ((M.1 0 29) - (M.1 0 30))) &&& 15))) 0 34 1).1 0 1)).1 0 34))) 0 35 1) 0 36 ((fl_i (g_MD_markAll (fl_i (fl_i (fl_i (fl_i M 0 30 ((M.1 0 30) - ((x1 - ((M.1 0 29) - (M.1 0 30))) &&& 15))) 0 34 1) 0 36 ((fl_i (fl_i M 0 30 ((M.1 0 30) - ((x1 - ((M.1 0 29) - (M.1 0 30))) &&& 15))) 0 34 1).1 0 1)) 0 34 ((fl_i (fl_i (fl_i M 0 30 ((M.1 0 30) - ((x1 - ((M.1 0 29) - (M.1 0 30))) &&& 15))) 0 34 1) 0 36 ((fl_i (fl_i M 0 30 ((M.1 0 30) - ((x1 - ((M.1 0 29) - (M.1 0 30))) &&& 15))) 0 34 1).1 0 1)).1 0 34))) 0 35 1).1 0 1)))) else (if ((fl_i (fl_i (fl_i M 0 30 ((M.1 0 30) - ((x1 - ((M.1 0 29) - (M.1 0 30))) &&& 15))) 0 34 1) 0 36 ((fl_i (fl_i M 0 30 ((M.1 0 30) - ((x1 - ((M.1 0 29) - (M.1 0 30))) &&& 15))) 0 34 1).1 0 1)).1 0 35) = 0 then (if ((x1 - ((M.1 0 29) - (M.1 0 30))) &&& 15) = 0 then (if ((fl_i (fl_i (fl_i M 0 30 ((M.1 0 30) - ((x1 - ((M.1 0 29) - (M.1 0 30))) &&& 15))) 0 34 1) 0 36 ((fl_i (fl_i M 0 30 ((M.1 0 30) - ((x1 - ((M.1 0 29) - (M.1 0 30))) &&& 15))) 0 34 1).1 0 1)).1 0 34) = 4 then ((g_MD_alert (fl_i (fl_i (fl_i M 0 30 ((M.1 0 30) - ((x1 - ((M.1 0 29) - (M.1 0 30))) &&& 15))) 0 34 1) 0 36 ((fl_i (fl_i M 0 30 ((M.1 0 30) - ((x1 - ((M.1 0 29) - (M.1 0 30))) &&& 15))) 0 34 1).1 0 1)) 2)) else ((fl_i (fl_i (g_MD_markAll (fl_i (fl_i (fl_i (fl_i M 0 30 ((M.1 0 30) - ((x1 - ((M.1 0 29) - (M.1 0 30))) &&& 15))) 0 34 1) 0 36 ((fl_i (fl_i M 0 30 ((M.1 0 30) - ((x1 - ((M.1 0 29) - (M.1 0 30))) &&& 15))) 0 34 1).1 0 1)) 0 34 (((fl_i (fl_i (fl_i M 0 30 ((M.1 0 30) - ((x1 - ((M.1 0 29) - (M.1 0 30))) &&& 15))) 0 34 1) 0 36 ((fl_i (fl_i M 0 30 ((M.1 0 30) - ((x1 - ((M.1 0 29) - (M.1 0 30))) &&& 15))) 0 34 1).1 0 1)).1 0 34) + 1))) 0 35 1) 0 36 ((fl_i (g_MD_markAll (fl_i (fl_i (fl_i (fl_i M 0 30 ((M.1 0 30) - ((x1 - ((M.1 0 29) - (M.1 0 30))) &&& 15))) 0 34 1) 0 36 ((fl_i (fl_i M 0 30 ((M.1 0 30) - ((x1 - ((M.1 0 29) - (M.1 0 30))) &&& 15))) 0 34 1).1 0 1)) 0 34 (((fl_i (fl_i (fl_i M 0 30 ((M.1 0 30) - ((x1 - ((M.1 0 29) - (M.1 0 30))) &&& 15))) 0 34 1) 0 36 ((fl_i (fl_i M 0 30 ((M.1 0 30) - ((x1 - ((M.1 0 29) - (M.1 0 30))) &&& 15))) 0 34 1).1 0 1)).1 0 34) + 1))) 0 35 1).1 0 1)))) else ((fl_i (fl_i (g_MD_markAll (fl_i (fl_i (fl_i (fl_i M 0 30 ((M.1 0 30) - ((x1 - ((M.1 0 29) - (M.1 0 30))) &&& 15))) 0 34 1) 0 36 ((fl_i (fl_i M 0 30 ((M.1 0 30) - ((x1 - ((M.1 0 29) - (M.1 0 30))) &&& 15))) 0 34 1).1 0 1)) 0 34 ((fl_i (fl_i (fl_i M 0 30 ((M.1 0 30) - ((x1 - ((M.1 0 29) - (M.1 0 30))) &&& 15))) 0 34 1) 0 36 ((fl_i (fl_i M 0 30 ((M.1 0 30) - ((x1 - ((M.1 0 29) - (M.1 0 30))) &&& 15))) 0 34 1).1 0 1)).1 0 34))) 0 35 1) 0 36 ((fl_i (g_MD_markAll (fl_i (fl_i (fl_i (fl_i M 0 30 ((M.1 0 30) - ((x1 - ((M.1 0 29) - (M.1 0 30))) &&& 15))) 0 34 1) 0 36 ((fl_i (fl_i M 0 30 ((M.1 0 30) - ((x1 - ((M.1 0 29) - (M.1 0 30))) &&& 15))) 0 34 1).1 0 1)) 0 34 ((fl_i (fl_i (fl_i M 0 30 ((M.1 0 30) - ((x1 - ((M.1 0 29) - (M.1 0 30))) &&& 15))) 0 34 1) 0 36 ((fl_i (fl_i M 0 30 ((M.1 0 30) - ((x1 - ((M.1 0 29) - (M.1 0 30))) &&& 15))) 0 34 1).1 0 1)).1 0 34))) 0 35 1).1 0 1)))) else ((fl_i (fl_i (fl_i M 0 30 ((M.1 0 30) - ((x1 - ((M.1 0 29) - (M.1 0 30))) &&& 15))) 0 34 1) 0 36 ((fl_i (fl_i M 0 30 ((M.1 0 30) - ((x1 - ((M.1 0 29) - (M.1 0 30))) &&& 15))) 0 34 1).1 0 1)))))))) else ((g_MD_alert M 2))) else ((g_MD_alert M 1))
set_option maxHeartbeats 400000 in
set_option maxRecDepth 100000 in
theorem c_MD_activeReport (l : Launch) {D : va_G} {ad : Nat → Nat} {cA : Nat → ClassId} (hi : fl_inj ad 41) (M : fl_M) (x1 : Int32) (x2 : Int32) (x3 : Int32) (hu : nn (M.1 0 30)) (hu16 : (M.1 0 30).toNatClampNeg ≤ 16) : Met l y_MD_activeReport w_MD_activeReport ({ frames := 1, cells := 0, slots := 0, locals := 21 } : Room) (va_Pc [.ref (ad 0), .int x1, .int x2, .int x3] (fl_B D cls (yt cA) ([] : fl_L) ([] : fl_FN) ([] : fl_MN) ad (yc ad cA) 41 M)) (va_Qv (fun M' => M' = (g_MD_activeReport M x1 x2 x3)) (fl_E D cls ad (yc ad cA) 41) (fl_A ad 41)) 0 0 (fl_A ad 41) := by
  refine Met.ofW (cc := b_MD_activeReport) (maxL := 5) (ret := none) (by decide) rfl ?_
  intro p e s m args below meth c s₁ B hml hv
  obtain ⟨rfl, hP, hK, hSt, hN⟩ := hv
  have hx := B.exec
  have hb := B.bytes
  have hr := B.returns
  have hts := atoms_spec (ws := w_MD_activeReport) B.pre
  have hown : s.vm.findClass "FarLinkModel" = some m.cls := findClass_of_methodNamed B.named
  have hlocks := B.notSynchronized
  have hS : va_S (fl_A ad 41) s.heap s.heap [] := va_S.rf
  have hl := lv_entry ([.ref (ad 0), .int x1, .int x2, .int x3]) (n := 5) (Nat.le_of_ble_eq_true rfl)
  rw [lg_entry_eq]
  generalize (lg_sl ([.ref (ad 0), .int x1, .int x2, .int x3]) ++ List.replicate (5 - (lg_sl ([.ref (ad 0), .int x1, .int x2, .int x3])).length) Slot.unset).toArray = ls at hl ⊢
  have hl : lv_has ls 5 [(0, .ref (ad 0)), (1, .int x1), (2, .int x2), (3, .int x3)] := hl
  have hG := g_MD_activeReport.eq_1 M x1 x2 x3
  refine lv_iload_n hx hb d_MD_activeReport_0 rfl (lv_at hl 1 rfl) ?_
  refine lv_aload_n hx hb d_MD_activeReport_1 rfl (lv_at hl 0 rfl) ?_
  refine gg_MD (k := 29) (v := .int (M.1 0 29)) hx hb hts hown hK hP  (hts _ (List.mem_cons_of_mem _ tw_810)) (by decide) rfl rfl d_MD_activeReport_2 ?_
  refine lv_aload_n hx hb d_MD_activeReport_5 rfl (lv_at hl 0 rfl) ?_
  refine gg_MD (k := 30) (v := .int (M.1 0 30)) hx hb hts hown hK hP  (hts _ (List.mem_cons_of_mem _ tw_811)) (by decide) rfl rfl d_MD_activeReport_6 ?_
  refine lv_isub hx hb d_MD_activeReport_9 ?_
  refine lv_isub hx hb d_MD_activeReport_10 ?_
  refine lv_bipush (v := 15) hx hb d_MD_activeReport_11 (by decide) ?_
  refine lv_iand hx hb d_MD_activeReport_13 ?_
  refine lv_istore (lv' := [(4, .int ((x1 - ((M.1 0 29) - (M.1 0 30))) &&& 15)), (0, .ref (ad 0)), (1, .int x1), (2, .int x2), (3, .int x3)]) hx hb d_MD_activeReport_14 hl (by decide) rfl (fun ls hl => ?_)
  refine lv_iload_n hx hb d_MD_activeReport_16 rfl (lv_at hl 3 rfl) ?_
  refine lv_if_ne (tgt := 29) hx hb d_MD_activeReport_17 (by decide) (fun h_1 => ?_) (fun h_1 => ?_)
  ·
    have hG := hG.trans (if_neg h_1)
    refine lv_aload_n hx hb d_MD_activeReport_29 rfl (lv_at hl 1 rfl) ?_
    refine lv_iload_n hx hb d_MD_activeReport_30 rfl (lv_at hl 3 rfl) ?_
    refine lv_if_eq (tgt := 38) hx hb d_MD_activeReport_31 (by decide) (fun h_2 => absurd h_2 (h_1)) (fun _ => ?_)
    refine lv_iconst (v := 1) hx hb d_MD_activeReport_34 (by decide) ?_
    refine lv_goto (tgt := 39) hx hb d_MD_activeReport_35 (by decide) ?_
    refine fl_callv (va_runV (As := [.int 1]) (rest := []) ⟨hx, hb, hml, hown, hts⟩ (c_MD_alert l hi M 1) (kv_MD_alert hts (hts _ (List.mem_cons_of_mem _ tw_1088)) ⟨Nat.le_of_ble_eq_true rfl, Nat.le_of_ble_eq_true rfl⟩) (fl_preV hK hSt hN hS hP (by decide) (kg_MD) rfl) rfl rfl hl.1 rfl (lv_room (Nat.le_of_ble_eq_true rfl)) d_MD_activeReport_39 ⟨Nat.zero_le _, Nat.zero_le _⟩) hS (fun H locs hP hS => ?_)
    exact fl_vret hx hb hr hlocks hP hS (by rw [hG]) d_MD_activeReport_42
  ·
    have hG := hG.trans (if_pos h_1)
    refine lv_iload hx hb d_MD_activeReport_20 (lv_at hl 0 rfl) ?_
    refine lv_aload_n hx hb d_MD_activeReport_22 rfl (lv_at hl 1 rfl) ?_
    refine gg_MD (k := 30) (v := .int (M.1 0 30)) hx hb hts hown hK hP  (hts _ (List.mem_cons_of_mem _ tw_811)) (by decide) rfl rfl d_MD_activeReport_23 ?_
    refine lv_icmp_le (tgt := 43) hx hb d_MD_activeReport_26 (by decide) (fun h_3 => ?_) (fun h_3 => ?_)
    ·
      have hG := hG.trans (if_pos h_3)
      refine lv_aload_n hx hb d_MD_activeReport_43 rfl (lv_at hl 1 rfl) ?_
      refine lv_aload_n hx hb d_MD_activeReport_44 rfl (lv_at hl 1 rfl) ?_
      refine gg_MD (k := 30) (v := .int (M.1 0 30)) hx hb hts hown hK hP  (hts _ (List.mem_cons_of_mem _ tw_811)) (by decide) rfl rfl d_MD_activeReport_45 ?_
      refine lv_iload hx hb d_MD_activeReport_48 (lv_at hl 0 rfl) ?_
      refine lv_isub hx hb d_MD_activeReport_50 ?_
      refine pg_MD (k := 30) hx hb hts hown hK hi hP hS  (hts _ (List.mem_cons_of_mem _ tw_811)) (by decide) rfl rfl rfl rfl (Nat.le_of_ble_eq_true rfl) rfl d_MD_activeReport_51 (fun H locs hP hS => ?_)
      refine lv_iload hx hb d_MD_activeReport_54 (lv_at hl 0 rfl) ?_
      refine lv_if_le (tgt := 72) hx hb d_MD_activeReport_56 (by decide) (fun h_4 => ?_) (fun h_4 => ?_)
      ·
        have hG := hG.trans (if_pos h_4)
        refine lv_iload_n hx hb d_MD_activeReport_72 rfl (lv_at hl 4 rfl) ?_
        refine lv_if_ne (tgt := 84) hx hb d_MD_activeReport_73 (by decide) (fun h_5 => ?_) (fun h_5 => ?_)
        ·
          have hG := hG.trans (if_neg h_5)
          refine lv_aload_n hx hb d_MD_activeReport_84 rfl (lv_at hl 1 rfl) ?_
          refine gg_MD (k := 30) (v := .int ((fl_i M 0 30 ((M.1 0 30) - ((x1 - ((M.1 0 29) - (M.1 0 30))) &&& 15))).1 0 30)) hx hb hts hown hK hP  (hts _ (List.mem_cons_of_mem _ tw_811)) (by decide) rfl rfl d_MD_activeReport_85 ?_
          refine lv_if_le (tgt := 163) hx hb d_MD_activeReport_88 (by decide) (fun h_6 => ?_) (fun h_6 => ?_)
          ·
            have hG := hG.trans (if_pos h_6)
            exact fl_vret hx hb hr hlocks hP hS (by rw [hG]) d_MD_activeReport_163
          ·
            have hG := hG.trans (if_neg h_6)
            refine lv_iload hx hb d_MD_activeReport_91 (lv_at hl 0 rfl) ?_
            refine lv_if_gt (tgt := 103) hx hb d_MD_activeReport_93 (by decide) (fun h_7 => ?_) (fun h_7 => ?_)
            ·
              have hG := hG.trans (if_pos h_7)
              refine lv_iload hx hb d_MD_activeReport_103 (lv_at hl 0 rfl) ?_
              refine lv_if_ne (tgt := 124) hx hb d_MD_activeReport_105 (by decide) (fun h_8 => ?_) (fun h_8 => ?_)
              ·
                have hG := hG.trans (if_neg h_8)
                refine lv_aload_n hx hb d_MD_activeReport_124 rfl (lv_at hl 1 rfl) ?_
                refine lv_iload hx hb d_MD_activeReport_125 (lv_at hl 0 rfl) ?_
                refine lv_if_ne (tgt := 139) hx hb d_MD_activeReport_127 (by decide) (fun _ => ?_) (fun h_9 => absurd h_9 (h_8))
                refine lv_aload_n hx hb d_MD_activeReport_139 rfl (lv_at hl 1 rfl) ?_
                refine gg_MD (k := 34) (v := .int ((fl_i M 0 30 ((M.1 0 30) - ((x1 - ((M.1 0 29) - (M.1 0 30))) &&& 15))).1 0 34)) hx hb hts hown hK hP  (hts _ (List.mem_cons_of_mem _ tw_815)) (by decide) rfl rfl d_MD_activeReport_140 ?_
                refine pg_MD (k := 34) hx hb hts hown hK hi hP hS  (hts _ (List.mem_cons_of_mem _ tw_815)) (by decide) rfl rfl rfl rfl (Nat.le_of_ble_eq_true rfl) rfl d_MD_activeReport_143 (fun H locs hP hS => ?_)
                refine lv_aload_n hx hb d_MD_activeReport_146 rfl (lv_at hl 1 rfl) ?_
                refine fl_callv (va_runV (As := []) (rest := []) ⟨hx, hb, hml, hown, hts⟩ (c_MD_markAll l hi (fl_i (fl_i M 0 30 ((M.1 0 30) - ((x1 - ((M.1 0 29) - (M.1 0 30))) &&& 15))) 0 34 ((fl_i M 0 30 ((M.1 0 30) - ((x1 - ((M.1 0 29) - (M.1 0 30))) &&& 15))).1 0 34)) ((op_sub hu hu16 (by assumption)).1) ((op_sub hu hu16 (by assumption)).2)) (kv_MD_markAll hts (hts _ (List.mem_cons_of_mem _ tw_1092)) ⟨Nat.le_of_ble_eq_true rfl, Nat.le_of_ble_eq_true rfl⟩) (fl_preV hK hSt hN hS hP (by decide) (kg_MD) rfl) rfl rfl hl.1 rfl (lv_room (Nat.le_of_ble_eq_true rfl)) d_MD_activeReport_147 ⟨Nat.zero_le _, Nat.zero_le _⟩) hS (fun H locs hP hS => ?_)
                refine lv_aload_n hx hb d_MD_activeReport_150 rfl (lv_at hl 1 rfl) ?_
                refine lv_iconst (v := 1) hx hb d_MD_activeReport_151 (by decide) ?_
                refine pg_MD (k := 35) hx hb hts hown hK hi hP hS  (hts _ (List.mem_cons_of_mem _ tw_816)) (by decide) rfl rfl (rfl) (rfl) (Nat.le_of_ble_eq_true rfl) rfl d_MD_activeReport_152 (fun H locs hP hS => ?_)
                refine lv_aload_n hx hb d_MD_activeReport_155 rfl (lv_at hl 1 rfl) ?_
                refine lv_aload_n hx hb d_MD_activeReport_156 rfl (lv_at hl 1 rfl) ?_
                refine gg_MD (k := 1) (v := .int ((fl_i (g_MD_markAll (fl_i (fl_i M 0 30 ((M.1 0 30) - ((x1 - ((M.1 0 29) - (M.1 0 30))) &&& 15))) 0 34 ((fl_i M 0 30 ((M.1 0 30) - ((x1 - ((M.1 0 29) - (M.1 0 30))) &&& 15))).1 0 34))) 0 35 1).1 0 1)) hx hb hts hown hK hP  (hts _ (List.mem_cons_of_mem _ tw_782)) (by decide) rfl rfl d_MD_activeReport_157 ?_
                refine pg_MD (k := 36) hx hb hts hown hK hi hP hS  (hts _ (List.mem_cons_of_mem _ tw_817)) (by decide) rfl rfl rfl rfl (Nat.le_of_ble_eq_true rfl) rfl d_MD_activeReport_160 (fun H locs hP hS => ?_)
                exact fl_vret hx hb hr hlocks hP hS (by rw [hG]) d_MD_activeReport_163
              ·
                have hG := hG.trans (if_pos h_8)
                refine lv_aload_n hx hb d_MD_activeReport_108 rfl (lv_at hl 1 rfl) ?_
                refine gg_MD (k := 34) (v := .int ((fl_i M 0 30 ((M.1 0 30) - ((x1 - ((M.1 0 29) - (M.1 0 30))) &&& 15))).1 0 34)) hx hb hts hown hK hP  (hts _ (List.mem_cons_of_mem _ tw_815)) (by decide) rfl rfl d_MD_activeReport_109 ?_
                refine lv_iconst (v := 4) hx hb d_MD_activeReport_112 (by decide) ?_
                refine lv_icmp_ne (tgt := 124) hx hb d_MD_activeReport_113 (by decide) (fun h_10 => ?_) (fun h_10 => ?_)
                ·
                  have hG := hG.trans (if_neg h_10)
                  refine lv_aload_n hx hb d_MD_activeReport_124 rfl (lv_at hl 1 rfl) ?_
                  refine lv_iload hx hb d_MD_activeReport_125 (lv_at hl 0 rfl) ?_
                  refine lv_if_ne (tgt := 139) hx hb d_MD_activeReport_127 (by decide) (fun h_11 => absurd (h_8) h_11) (fun _ => ?_)
                  refine lv_aload_n hx hb d_MD_activeReport_130 rfl (lv_at hl 1 rfl) ?_
                  refine gg_MD (k := 34) (v := .int ((fl_i M 0 30 ((M.1 0 30) - ((x1 - ((M.1 0 29) - (M.1 0 30))) &&& 15))).1 0 34)) hx hb hts hown hK hP  (hts _ (List.mem_cons_of_mem _ tw_815)) (by decide) rfl rfl d_MD_activeReport_131 ?_
                  refine lv_iconst (v := 1) hx hb d_MD_activeReport_134 (by decide) ?_
                  refine lv_iadd hx hb d_MD_activeReport_135 ?_
                  refine lv_goto (tgt := 143) hx hb d_MD_activeReport_136 (by decide) ?_
                  refine pg_MD (k := 34) hx hb hts hown hK hi hP hS  (hts _ (List.mem_cons_of_mem _ tw_815)) (by decide) rfl rfl rfl rfl (Nat.le_of_ble_eq_true rfl) rfl d_MD_activeReport_143 (fun H locs hP hS => ?_)
                  refine lv_aload_n hx hb d_MD_activeReport_146 rfl (lv_at hl 1 rfl) ?_
                  refine fl_callv (va_runV (As := []) (rest := []) ⟨hx, hb, hml, hown, hts⟩ (c_MD_markAll l hi (fl_i (fl_i M 0 30 ((M.1 0 30) - ((x1 - ((M.1 0 29) - (M.1 0 30))) &&& 15))) 0 34 (((fl_i M 0 30 ((M.1 0 30) - ((x1 - ((M.1 0 29) - (M.1 0 30))) &&& 15))).1 0 34) + 1)) ((op_sub hu hu16 (by assumption)).1) ((op_sub hu hu16 (by assumption)).2)) (kv_MD_markAll hts (hts _ (List.mem_cons_of_mem _ tw_1092)) ⟨Nat.le_of_ble_eq_true rfl, Nat.le_of_ble_eq_true rfl⟩) (fl_preV hK hSt hN hS hP (by decide) (kg_MD) rfl) rfl rfl hl.1 rfl (lv_room (Nat.le_of_ble_eq_true rfl)) d_MD_activeReport_147 ⟨Nat.zero_le _, Nat.zero_le _⟩) hS (fun H locs hP hS => ?_)
                  refine lv_aload_n hx hb d_MD_activeReport_150 rfl (lv_at hl 1 rfl) ?_
                  refine lv_iconst (v := 1) hx hb d_MD_activeReport_151 (by decide) ?_
                  refine pg_MD (k := 35) hx hb hts hown hK hi hP hS  (hts _ (List.mem_cons_of_mem _ tw_816)) (by decide) rfl rfl (rfl) (rfl) (Nat.le_of_ble_eq_true rfl) rfl d_MD_activeReport_152 (fun H locs hP hS => ?_)
                  refine lv_aload_n hx hb d_MD_activeReport_155 rfl (lv_at hl 1 rfl) ?_
                  refine lv_aload_n hx hb d_MD_activeReport_156 rfl (lv_at hl 1 rfl) ?_
                  refine gg_MD (k := 1) (v := .int ((fl_i (g_MD_markAll (fl_i (fl_i M 0 30 ((M.1 0 30) - ((x1 - ((M.1 0 29) - (M.1 0 30))) &&& 15))) 0 34 (((fl_i M 0 30 ((M.1 0 30) - ((x1 - ((M.1 0 29) - (M.1 0 30))) &&& 15))).1 0 34) + 1))) 0 35 1).1 0 1)) hx hb hts hown hK hP  (hts _ (List.mem_cons_of_mem _ tw_782)) (by decide) rfl rfl d_MD_activeReport_157 ?_
                  refine pg_MD (k := 36) hx hb hts hown hK hi hP hS  (hts _ (List.mem_cons_of_mem _ tw_817)) (by decide) rfl rfl rfl rfl (Nat.le_of_ble_eq_true rfl) rfl d_MD_activeReport_160 (fun H locs hP hS => ?_)
                  exact fl_vret hx hb hr hlocks hP hS (by rw [hG]) d_MD_activeReport_163
                ·
                  have hG := hG.trans (if_pos h_10)
                  refine lv_aload_n hx hb d_MD_activeReport_116 rfl (lv_at hl 1 rfl) ?_
                  refine lv_iconst (v := 2) hx hb d_MD_activeReport_117 (by decide) ?_
                  refine fl_callv (va_runV (As := [.int 2]) (rest := []) ⟨hx, hb, hml, hown, hts⟩ (c_MD_alert l hi (fl_i M 0 30 ((M.1 0 30) - ((x1 - ((M.1 0 29) - (M.1 0 30))) &&& 15))) 2) (kv_MD_alert hts (hts _ (List.mem_cons_of_mem _ tw_1088)) ⟨Nat.le_of_ble_eq_true rfl, Nat.le_of_ble_eq_true rfl⟩) (fl_preV hK hSt hN hS hP (by decide) (kg_MD) rfl) rfl rfl hl.1 rfl (lv_room (Nat.le_of_ble_eq_true rfl)) d_MD_activeReport_118 ⟨Nat.zero_le _, Nat.zero_le _⟩) hS (fun H locs hP hS => ?_)
                  refine lv_goto (tgt := 163) hx hb d_MD_activeReport_121 (by decide) ?_
                  exact fl_vret hx hb hr hlocks hP hS (by rw [hG]) d_MD_activeReport_163
            ·
              have hG := hG.trans (if_neg h_7)
              refine lv_aload_n hx hb d_MD_activeReport_96 rfl (lv_at hl 1 rfl) ?_
              refine gg_MD (k := 35) (v := .int ((fl_i M 0 30 ((M.1 0 30) - ((x1 - ((M.1 0 29) - (M.1 0 30))) &&& 15))).1 0 35)) hx hb hts hown hK hP  (hts _ (List.mem_cons_of_mem _ tw_816)) (by decide) rfl rfl d_MD_activeReport_97 ?_
              refine lv_if_ne (tgt := 163) hx hb d_MD_activeReport_100 (by decide) (fun h_12 => ?_) (fun h_12 => ?_)
              ·
                have hG := hG.trans (if_neg h_12)
                exact fl_vret hx hb hr hlocks hP hS (by rw [hG]) d_MD_activeReport_163
              ·
                have hG := hG.trans (if_pos h_12)
                refine lv_iload hx hb d_MD_activeReport_103 (lv_at hl 0 rfl) ?_
                refine lv_if_ne (tgt := 124) hx hb d_MD_activeReport_105 (by decide) (fun h_13 => ?_) (fun h_13 => ?_)
                ·
                  have hG := hG.trans (if_neg h_13)
                  refine lv_aload_n hx hb d_MD_activeReport_124 rfl (lv_at hl 1 rfl) ?_
                  refine lv_iload hx hb d_MD_activeReport_125 (lv_at hl 0 rfl) ?_
                  refine lv_if_ne (tgt := 139) hx hb d_MD_activeReport_127 (by decide) (fun _ => ?_) (fun h_14 => absurd h_14 (h_13))
                  refine lv_aload_n hx hb d_MD_activeReport_139 rfl (lv_at hl 1 rfl) ?_
                  refine gg_MD (k := 34) (v := .int ((fl_i M 0 30 ((M.1 0 30) - ((x1 - ((M.1 0 29) - (M.1 0 30))) &&& 15))).1 0 34)) hx hb hts hown hK hP  (hts _ (List.mem_cons_of_mem _ tw_815)) (by decide) rfl rfl d_MD_activeReport_140 ?_
                  refine pg_MD (k := 34) hx hb hts hown hK hi hP hS  (hts _ (List.mem_cons_of_mem _ tw_815)) (by decide) rfl rfl rfl rfl (Nat.le_of_ble_eq_true rfl) rfl d_MD_activeReport_143 (fun H locs hP hS => ?_)
                  refine lv_aload_n hx hb d_MD_activeReport_146 rfl (lv_at hl 1 rfl) ?_
                  refine fl_callv (va_runV (As := []) (rest := []) ⟨hx, hb, hml, hown, hts⟩ (c_MD_markAll l hi (fl_i (fl_i M 0 30 ((M.1 0 30) - ((x1 - ((M.1 0 29) - (M.1 0 30))) &&& 15))) 0 34 ((fl_i M 0 30 ((M.1 0 30) - ((x1 - ((M.1 0 29) - (M.1 0 30))) &&& 15))).1 0 34)) ((op_sub hu hu16 (by assumption)).1) ((op_sub hu hu16 (by assumption)).2)) (kv_MD_markAll hts (hts _ (List.mem_cons_of_mem _ tw_1092)) ⟨Nat.le_of_ble_eq_true rfl, Nat.le_of_ble_eq_true rfl⟩) (fl_preV hK hSt hN hS hP (by decide) (kg_MD) rfl) rfl rfl hl.1 rfl (lv_room (Nat.le_of_ble_eq_true rfl)) d_MD_activeReport_147 ⟨Nat.zero_le _, Nat.zero_le _⟩) hS (fun H locs hP hS => ?_)
                  refine lv_aload_n hx hb d_MD_activeReport_150 rfl (lv_at hl 1 rfl) ?_
                  refine lv_iconst (v := 1) hx hb d_MD_activeReport_151 (by decide) ?_
                  refine pg_MD (k := 35) hx hb hts hown hK hi hP hS  (hts _ (List.mem_cons_of_mem _ tw_816)) (by decide) rfl rfl (rfl) (rfl) (Nat.le_of_ble_eq_true rfl) rfl d_MD_activeReport_152 (fun H locs hP hS => ?_)
                  refine lv_aload_n hx hb d_MD_activeReport_155 rfl (lv_at hl 1 rfl) ?_
                  refine lv_aload_n hx hb d_MD_activeReport_156 rfl (lv_at hl 1 rfl) ?_
                  refine gg_MD (k := 1) (v := .int ((fl_i (g_MD_markAll (fl_i (fl_i M 0 30 ((M.1 0 30) - ((x1 - ((M.1 0 29) - (M.1 0 30))) &&& 15))) 0 34 ((fl_i M 0 30 ((M.1 0 30) - ((x1 - ((M.1 0 29) - (M.1 0 30))) &&& 15))).1 0 34))) 0 35 1).1 0 1)) hx hb hts hown hK hP  (hts _ (List.mem_cons_of_mem _ tw_782)) (by decide) rfl rfl d_MD_activeReport_157 ?_
                  refine pg_MD (k := 36) hx hb hts hown hK hi hP hS  (hts _ (List.mem_cons_of_mem _ tw_817)) (by decide) rfl rfl rfl rfl (Nat.le_of_ble_eq_true rfl) rfl d_MD_activeReport_160 (fun H locs hP hS => ?_)
                  exact fl_vret hx hb hr hlocks hP hS (by rw [hG]) d_MD_activeReport_163
                ·
                  have hG := hG.trans (if_pos h_13)
                  refine lv_aload_n hx hb d_MD_activeReport_108 rfl (lv_at hl 1 rfl) ?_
                  refine gg_MD (k := 34) (v := .int ((fl_i M 0 30 ((M.1 0 30) - ((x1 - ((M.1 0 29) - (M.1 0 30))) &&& 15))).1 0 34)) hx hb hts hown hK hP  (hts _ (List.mem_cons_of_mem _ tw_815)) (by decide) rfl rfl d_MD_activeReport_109 ?_
                  refine lv_iconst (v := 4) hx hb d_MD_activeReport_112 (by decide) ?_
                  refine lv_icmp_ne (tgt := 124) hx hb d_MD_activeReport_113 (by decide) (fun h_15 => ?_) (fun h_15 => ?_)
                  ·
                    have hG := hG.trans (if_neg h_15)
                    refine lv_aload_n hx hb d_MD_activeReport_124 rfl (lv_at hl 1 rfl) ?_
                    refine lv_iload hx hb d_MD_activeReport_125 (lv_at hl 0 rfl) ?_
                    refine lv_if_ne (tgt := 139) hx hb d_MD_activeReport_127 (by decide) (fun h_16 => absurd (h_13) h_16) (fun _ => ?_)
                    refine lv_aload_n hx hb d_MD_activeReport_130 rfl (lv_at hl 1 rfl) ?_
                    refine gg_MD (k := 34) (v := .int ((fl_i M 0 30 ((M.1 0 30) - ((x1 - ((M.1 0 29) - (M.1 0 30))) &&& 15))).1 0 34)) hx hb hts hown hK hP  (hts _ (List.mem_cons_of_mem _ tw_815)) (by decide) rfl rfl d_MD_activeReport_131 ?_
                    refine lv_iconst (v := 1) hx hb d_MD_activeReport_134 (by decide) ?_
                    refine lv_iadd hx hb d_MD_activeReport_135 ?_
                    refine lv_goto (tgt := 143) hx hb d_MD_activeReport_136 (by decide) ?_
                    refine pg_MD (k := 34) hx hb hts hown hK hi hP hS  (hts _ (List.mem_cons_of_mem _ tw_815)) (by decide) rfl rfl rfl rfl (Nat.le_of_ble_eq_true rfl) rfl d_MD_activeReport_143 (fun H locs hP hS => ?_)
                    refine lv_aload_n hx hb d_MD_activeReport_146 rfl (lv_at hl 1 rfl) ?_
                    refine fl_callv (va_runV (As := []) (rest := []) ⟨hx, hb, hml, hown, hts⟩ (c_MD_markAll l hi (fl_i (fl_i M 0 30 ((M.1 0 30) - ((x1 - ((M.1 0 29) - (M.1 0 30))) &&& 15))) 0 34 (((fl_i M 0 30 ((M.1 0 30) - ((x1 - ((M.1 0 29) - (M.1 0 30))) &&& 15))).1 0 34) + 1)) ((op_sub hu hu16 (by assumption)).1) ((op_sub hu hu16 (by assumption)).2)) (kv_MD_markAll hts (hts _ (List.mem_cons_of_mem _ tw_1092)) ⟨Nat.le_of_ble_eq_true rfl, Nat.le_of_ble_eq_true rfl⟩) (fl_preV hK hSt hN hS hP (by decide) (kg_MD) rfl) rfl rfl hl.1 rfl (lv_room (Nat.le_of_ble_eq_true rfl)) d_MD_activeReport_147 ⟨Nat.zero_le _, Nat.zero_le _⟩) hS (fun H locs hP hS => ?_)
                    refine lv_aload_n hx hb d_MD_activeReport_150 rfl (lv_at hl 1 rfl) ?_
                    refine lv_iconst (v := 1) hx hb d_MD_activeReport_151 (by decide) ?_
                    refine pg_MD (k := 35) hx hb hts hown hK hi hP hS  (hts _ (List.mem_cons_of_mem _ tw_816)) (by decide) rfl rfl (rfl) (rfl) (Nat.le_of_ble_eq_true rfl) rfl d_MD_activeReport_152 (fun H locs hP hS => ?_)
                    refine lv_aload_n hx hb d_MD_activeReport_155 rfl (lv_at hl 1 rfl) ?_
                    refine lv_aload_n hx hb d_MD_activeReport_156 rfl (lv_at hl 1 rfl) ?_
                    refine gg_MD (k := 1) (v := .int ((fl_i (g_MD_markAll (fl_i (fl_i M 0 30 ((M.1 0 30) - ((x1 - ((M.1 0 29) - (M.1 0 30))) &&& 15))) 0 34 (((fl_i M 0 30 ((M.1 0 30) - ((x1 - ((M.1 0 29) - (M.1 0 30))) &&& 15))).1 0 34) + 1))) 0 35 1).1 0 1)) hx hb hts hown hK hP  (hts _ (List.mem_cons_of_mem _ tw_782)) (by decide) rfl rfl d_MD_activeReport_157 ?_
                    refine pg_MD (k := 36) hx hb hts hown hK hi hP hS  (hts _ (List.mem_cons_of_mem _ tw_817)) (by decide) rfl rfl rfl rfl (Nat.le_of_ble_eq_true rfl) rfl d_MD_activeReport_160 (fun H locs hP hS => ?_)
                    exact fl_vret hx hb hr hlocks hP hS (by rw [hG]) d_MD_activeReport_163
                  ·
                    have hG := hG.trans (if_pos h_15)
                    refine lv_aload_n hx hb d_MD_activeReport_116 rfl (lv_at hl 1 rfl) ?_
                    refine lv_iconst (v := 2) hx hb d_MD_activeReport_117 (by decide) ?_
                    refine fl_callv (va_runV (As := [.int 2]) (rest := []) ⟨hx, hb, hml, hown, hts⟩ (c_MD_alert l hi (fl_i M 0 30 ((M.1 0 30) - ((x1 - ((M.1 0 29) - (M.1 0 30))) &&& 15))) 2) (kv_MD_alert hts (hts _ (List.mem_cons_of_mem _ tw_1088)) ⟨Nat.le_of_ble_eq_true rfl, Nat.le_of_ble_eq_true rfl⟩) (fl_preV hK hSt hN hS hP (by decide) (kg_MD) rfl) rfl rfl hl.1 rfl (lv_room (Nat.le_of_ble_eq_true rfl)) d_MD_activeReport_118 ⟨Nat.zero_le _, Nat.zero_le _⟩) hS (fun H locs hP hS => ?_)
                    refine lv_goto (tgt := 163) hx hb d_MD_activeReport_121 (by decide) ?_
                    exact fl_vret hx hb hr hlocks hP hS (by rw [hG]) d_MD_activeReport_163
        ·
          have hG := hG.trans (if_pos h_5)
          refine lv_aload_n hx hb d_MD_activeReport_76 rfl (lv_at hl 1 rfl) ?_
          refine lv_iconst (v := 0) hx hb d_MD_activeReport_77 (by decide) ?_
          refine pg_MD (k := 35) hx hb hts hown hK hi hP hS  (hts _ (List.mem_cons_of_mem _ tw_816)) (by decide) rfl rfl (rfl) (rfl) (Nat.le_of_ble_eq_true rfl) rfl d_MD_activeReport_78 (fun H locs hP hS => ?_)
          refine lv_goto (tgt := 163) hx hb d_MD_activeReport_81 (by decide) ?_
          exact fl_vret hx hb hr hlocks hP hS (by rw [hG]) d_MD_activeReport_163
      ·
        have hG := hG.trans (if_neg h_4)
        refine lv_aload_n hx hb d_MD_activeReport_59 rfl (lv_at hl 1 rfl) ?_
        refine lv_iconst (v := 1) hx hb d_MD_activeReport_60 (by decide) ?_
        refine pg_MD (k := 34) hx hb hts hown hK hi hP hS  (hts _ (List.mem_cons_of_mem _ tw_815)) (by decide) rfl rfl rfl rfl (Nat.le_of_ble_eq_true rfl) rfl d_MD_activeReport_61 (fun H locs hP hS => ?_)
        refine lv_aload_n hx hb d_MD_activeReport_64 rfl (lv_at hl 1 rfl) ?_
        refine lv_aload_n hx hb d_MD_activeReport_65 rfl (lv_at hl 1 rfl) ?_
        refine gg_MD (k := 1) (v := .int ((fl_i (fl_i M 0 30 ((M.1 0 30) - ((x1 - ((M.1 0 29) - (M.1 0 30))) &&& 15))) 0 34 1).1 0 1)) hx hb hts hown hK hP  (hts _ (List.mem_cons_of_mem _ tw_782)) (by decide) rfl rfl d_MD_activeReport_66 ?_
        refine pg_MD (k := 36) hx hb hts hown hK hi hP hS  (hts _ (List.mem_cons_of_mem _ tw_817)) (by decide) rfl rfl rfl rfl (Nat.le_of_ble_eq_true rfl) rfl d_MD_activeReport_69 (fun H locs hP hS => ?_)
        refine lv_iload_n hx hb d_MD_activeReport_72 rfl (lv_at hl 4 rfl) ?_
        refine lv_if_ne (tgt := 84) hx hb d_MD_activeReport_73 (by decide) (fun h_17 => ?_) (fun h_17 => ?_)
        ·
          have hG := hG.trans (if_neg h_17)
          refine lv_aload_n hx hb d_MD_activeReport_84 rfl (lv_at hl 1 rfl) ?_
          refine gg_MD (k := 30) (v := .int ((fl_i (fl_i (fl_i M 0 30 ((M.1 0 30) - ((x1 - ((M.1 0 29) - (M.1 0 30))) &&& 15))) 0 34 1) 0 36 ((fl_i (fl_i M 0 30 ((M.1 0 30) - ((x1 - ((M.1 0 29) - (M.1 0 30))) &&& 15))) 0 34 1).1 0 1)).1 0 30)) hx hb hts hown hK hP  (hts _ (List.mem_cons_of_mem _ tw_811)) (by decide) rfl rfl d_MD_activeReport_85 ?_
          refine lv_if_le (tgt := 163) hx hb d_MD_activeReport_88 (by decide) (fun h_18 => ?_) (fun h_18 => ?_)
          ·
            have hG := hG.trans (if_pos h_18)
            exact fl_vret hx hb hr hlocks hP hS (by rw [hG]) d_MD_activeReport_163
          ·
            have hG := hG.trans (if_neg h_18)
            refine lv_iload hx hb d_MD_activeReport_91 (lv_at hl 0 rfl) ?_
            refine lv_if_gt (tgt := 103) hx hb d_MD_activeReport_93 (by decide) (fun h_19 => ?_) (fun h_19 => ?_)
            ·
              have hG := hG.trans (if_pos h_19)
              refine lv_iload hx hb d_MD_activeReport_103 (lv_at hl 0 rfl) ?_
              refine lv_if_ne (tgt := 124) hx hb d_MD_activeReport_105 (by decide) (fun h_20 => ?_) (fun h_20 => ?_)
              ·
                have hG := hG.trans (if_neg h_20)
                refine lv_aload_n hx hb d_MD_activeReport_124 rfl (lv_at hl 1 rfl) ?_
                refine lv_iload hx hb d_MD_activeReport_125 (lv_at hl 0 rfl) ?_
                refine lv_if_ne (tgt := 139) hx hb d_MD_activeReport_127 (by decide) (fun _ => ?_) (fun h_21 => absurd h_21 (h_20))
                refine lv_aload_n hx hb d_MD_activeReport_139 rfl (lv_at hl 1 rfl) ?_
                refine gg_MD (k := 34) (v := .int ((fl_i (fl_i (fl_i M 0 30 ((M.1 0 30) - ((x1 - ((M.1 0 29) - (M.1 0 30))) &&& 15))) 0 34 1) 0 36 ((fl_i (fl_i M 0 30 ((M.1 0 30) - ((x1 - ((M.1 0 29) - (M.1 0 30))) &&& 15))) 0 34 1).1 0 1)).1 0 34)) hx hb hts hown hK hP  (hts _ (List.mem_cons_of_mem _ tw_815)) (by decide) rfl rfl d_MD_activeReport_140 ?_
                refine pg_MD (k := 34) hx hb hts hown hK hi hP hS  (hts _ (List.mem_cons_of_mem _ tw_815)) (by decide) rfl rfl rfl rfl (Nat.le_of_ble_eq_true rfl) rfl d_MD_activeReport_143 (fun H locs hP hS => ?_)
                refine lv_aload_n hx hb d_MD_activeReport_146 rfl (lv_at hl 1 rfl) ?_
                refine fl_callv (va_runV (As := []) (rest := []) ⟨hx, hb, hml, hown, hts⟩ (c_MD_markAll l hi (fl_i (fl_i (fl_i (fl_i M 0 30 ((M.1 0 30) - ((x1 - ((M.1 0 29) - (M.1 0 30))) &&& 15))) 0 34 1) 0 36 ((fl_i (fl_i M 0 30 ((M.1 0 30) - ((x1 - ((M.1 0 29) - (M.1 0 30))) &&& 15))) 0 34 1).1 0 1)) 0 34 ((fl_i (fl_i (fl_i M 0 30 ((M.1 0 30) - ((x1 - ((M.1 0 29) - (M.1 0 30))) &&& 15))) 0 34 1) 0 36 ((fl_i (fl_i M 0 30 ((M.1 0 30) - ((x1 - ((M.1 0 29) - (M.1 0 30))) &&& 15))) 0 34 1).1 0 1)).1 0 34)) ((op_sub hu hu16 (by assumption)).1) ((op_sub hu hu16 (by assumption)).2)) (kv_MD_markAll hts (hts _ (List.mem_cons_of_mem _ tw_1092)) ⟨Nat.le_of_ble_eq_true rfl, Nat.le_of_ble_eq_true rfl⟩) (fl_preV hK hSt hN hS hP (by decide) (kg_MD) rfl) rfl rfl hl.1 rfl (lv_room (Nat.le_of_ble_eq_true rfl)) d_MD_activeReport_147 ⟨Nat.zero_le _, Nat.zero_le _⟩) hS (fun H locs hP hS => ?_)
                refine lv_aload_n hx hb d_MD_activeReport_150 rfl (lv_at hl 1 rfl) ?_
                refine lv_iconst (v := 1) hx hb d_MD_activeReport_151 (by decide) ?_
                refine pg_MD (k := 35) hx hb hts hown hK hi hP hS  (hts _ (List.mem_cons_of_mem _ tw_816)) (by decide) rfl rfl (rfl) (rfl) (Nat.le_of_ble_eq_true rfl) rfl d_MD_activeReport_152 (fun H locs hP hS => ?_)
                refine lv_aload_n hx hb d_MD_activeReport_155 rfl (lv_at hl 1 rfl) ?_
                refine lv_aload_n hx hb d_MD_activeReport_156 rfl (lv_at hl 1 rfl) ?_
                refine gg_MD (k := 1) (v := .int ((fl_i (g_MD_markAll (fl_i (fl_i (fl_i (fl_i M 0 30 ((M.1 0 30) - ((x1 - ((M.1 0 29) - (M.1 0 30))) &&& 15))) 0 34 1) 0 36 ((fl_i (fl_i M 0 30 ((M.1 0 30) - ((x1 - ((M.1 0 29) - (M.1 0 30))) &&& 15))) 0 34 1).1 0 1)) 0 34 ((fl_i (fl_i (fl_i M 0 30 ((M.1 0 30) - ((x1 - ((M.1 0 29) - (M.1 0 30))) &&& 15))) 0 34 1) 0 36 ((fl_i (fl_i M 0 30 ((M.1 0 30) - ((x1 - ((M.1 0 29) - (M.1 0 30))) &&& 15))) 0 34 1).1 0 1)).1 0 34))) 0 35 1).1 0 1)) hx hb hts hown hK hP  (hts _ (List.mem_cons_of_mem _ tw_782)) (by decide) rfl rfl d_MD_activeReport_157 ?_
                refine pg_MD (k := 36) hx hb hts hown hK hi hP hS  (hts _ (List.mem_cons_of_mem _ tw_817)) (by decide) rfl rfl rfl rfl (Nat.le_of_ble_eq_true rfl) rfl d_MD_activeReport_160 (fun H locs hP hS => ?_)
                exact fl_vret hx hb hr hlocks hP hS (by rw [hG]) d_MD_activeReport_163
              ·
                have hG := hG.trans (if_pos h_20)
                refine lv_aload_n hx hb d_MD_activeReport_108 rfl (lv_at hl 1 rfl) ?_
                refine gg_MD (k := 34) (v := .int ((fl_i (fl_i (fl_i M 0 30 ((M.1 0 30) - ((x1 - ((M.1 0 29) - (M.1 0 30))) &&& 15))) 0 34 1) 0 36 ((fl_i (fl_i M 0 30 ((M.1 0 30) - ((x1 - ((M.1 0 29) - (M.1 0 30))) &&& 15))) 0 34 1).1 0 1)).1 0 34)) hx hb hts hown hK hP  (hts _ (List.mem_cons_of_mem _ tw_815)) (by decide) rfl rfl d_MD_activeReport_109 ?_
                refine lv_iconst (v := 4) hx hb d_MD_activeReport_112 (by decide) ?_
                refine lv_icmp_ne (tgt := 124) hx hb d_MD_activeReport_113 (by decide) (fun h_22 => ?_) (fun h_22 => ?_)
                ·
                  have hG := hG.trans (if_neg h_22)
                  refine lv_aload_n hx hb d_MD_activeReport_124 rfl (lv_at hl 1 rfl) ?_
                  refine lv_iload hx hb d_MD_activeReport_125 (lv_at hl 0 rfl) ?_
                  refine lv_if_ne (tgt := 139) hx hb d_MD_activeReport_127 (by decide) (fun h_23 => absurd (h_20) h_23) (fun _ => ?_)
                  refine lv_aload_n hx hb d_MD_activeReport_130 rfl (lv_at hl 1 rfl) ?_
                  refine gg_MD (k := 34) (v := .int ((fl_i (fl_i (fl_i M 0 30 ((M.1 0 30) - ((x1 - ((M.1 0 29) - (M.1 0 30))) &&& 15))) 0 34 1) 0 36 ((fl_i (fl_i M 0 30 ((M.1 0 30) - ((x1 - ((M.1 0 29) - (M.1 0 30))) &&& 15))) 0 34 1).1 0 1)).1 0 34)) hx hb hts hown hK hP  (hts _ (List.mem_cons_of_mem _ tw_815)) (by decide) rfl rfl d_MD_activeReport_131 ?_
                  refine lv_iconst (v := 1) hx hb d_MD_activeReport_134 (by decide) ?_
                  refine lv_iadd hx hb d_MD_activeReport_135 ?_
                  refine lv_goto (tgt := 143) hx hb d_MD_activeReport_136 (by decide) ?_
                  refine pg_MD (k := 34) hx hb hts hown hK hi hP hS  (hts _ (List.mem_cons_of_mem _ tw_815)) (by decide) rfl rfl rfl rfl (Nat.le_of_ble_eq_true rfl) rfl d_MD_activeReport_143 (fun H locs hP hS => ?_)
                  refine lv_aload_n hx hb d_MD_activeReport_146 rfl (lv_at hl 1 rfl) ?_
                  refine fl_callv (va_runV (As := []) (rest := []) ⟨hx, hb, hml, hown, hts⟩ (c_MD_markAll l hi (fl_i (fl_i (fl_i (fl_i M 0 30 ((M.1 0 30) - ((x1 - ((M.1 0 29) - (M.1 0 30))) &&& 15))) 0 34 1) 0 36 ((fl_i (fl_i M 0 30 ((M.1 0 30) - ((x1 - ((M.1 0 29) - (M.1 0 30))) &&& 15))) 0 34 1).1 0 1)) 0 34 (((fl_i (fl_i (fl_i M 0 30 ((M.1 0 30) - ((x1 - ((M.1 0 29) - (M.1 0 30))) &&& 15))) 0 34 1) 0 36 ((fl_i (fl_i M 0 30 ((M.1 0 30) - ((x1 - ((M.1 0 29) - (M.1 0 30))) &&& 15))) 0 34 1).1 0 1)).1 0 34) + 1)) ((op_sub hu hu16 (by assumption)).1) ((op_sub hu hu16 (by assumption)).2)) (kv_MD_markAll hts (hts _ (List.mem_cons_of_mem _ tw_1092)) ⟨Nat.le_of_ble_eq_true rfl, Nat.le_of_ble_eq_true rfl⟩) (fl_preV hK hSt hN hS hP (by decide) (kg_MD) rfl) rfl rfl hl.1 rfl (lv_room (Nat.le_of_ble_eq_true rfl)) d_MD_activeReport_147 ⟨Nat.zero_le _, Nat.zero_le _⟩) hS (fun H locs hP hS => ?_)
                  refine lv_aload_n hx hb d_MD_activeReport_150 rfl (lv_at hl 1 rfl) ?_
                  refine lv_iconst (v := 1) hx hb d_MD_activeReport_151 (by decide) ?_
                  refine pg_MD (k := 35) hx hb hts hown hK hi hP hS  (hts _ (List.mem_cons_of_mem _ tw_816)) (by decide) rfl rfl (rfl) (rfl) (Nat.le_of_ble_eq_true rfl) rfl d_MD_activeReport_152 (fun H locs hP hS => ?_)
                  refine lv_aload_n hx hb d_MD_activeReport_155 rfl (lv_at hl 1 rfl) ?_
                  refine lv_aload_n hx hb d_MD_activeReport_156 rfl (lv_at hl 1 rfl) ?_
                  refine gg_MD (k := 1) (v := .int ((fl_i (g_MD_markAll (fl_i (fl_i (fl_i (fl_i M 0 30 ((M.1 0 30) - ((x1 - ((M.1 0 29) - (M.1 0 30))) &&& 15))) 0 34 1) 0 36 ((fl_i (fl_i M 0 30 ((M.1 0 30) - ((x1 - ((M.1 0 29) - (M.1 0 30))) &&& 15))) 0 34 1).1 0 1)) 0 34 (((fl_i (fl_i (fl_i M 0 30 ((M.1 0 30) - ((x1 - ((M.1 0 29) - (M.1 0 30))) &&& 15))) 0 34 1) 0 36 ((fl_i (fl_i M 0 30 ((M.1 0 30) - ((x1 - ((M.1 0 29) - (M.1 0 30))) &&& 15))) 0 34 1).1 0 1)).1 0 34) + 1))) 0 35 1).1 0 1)) hx hb hts hown hK hP  (hts _ (List.mem_cons_of_mem _ tw_782)) (by decide) rfl rfl d_MD_activeReport_157 ?_
                  refine pg_MD (k := 36) hx hb hts hown hK hi hP hS  (hts _ (List.mem_cons_of_mem _ tw_817)) (by decide) rfl rfl rfl rfl (Nat.le_of_ble_eq_true rfl) rfl d_MD_activeReport_160 (fun H locs hP hS => ?_)
                  exact fl_vret hx hb hr hlocks hP hS (by rw [hG]) d_MD_activeReport_163
                ·
                  have hG := hG.trans (if_pos h_22)
                  refine lv_aload_n hx hb d_MD_activeReport_116 rfl (lv_at hl 1 rfl) ?_
                  refine lv_iconst (v := 2) hx hb d_MD_activeReport_117 (by decide) ?_
                  refine fl_callv (va_runV (As := [.int 2]) (rest := []) ⟨hx, hb, hml, hown, hts⟩ (c_MD_alert l hi (fl_i (fl_i (fl_i M 0 30 ((M.1 0 30) - ((x1 - ((M.1 0 29) - (M.1 0 30))) &&& 15))) 0 34 1) 0 36 ((fl_i (fl_i M 0 30 ((M.1 0 30) - ((x1 - ((M.1 0 29) - (M.1 0 30))) &&& 15))) 0 34 1).1 0 1)) 2) (kv_MD_alert hts (hts _ (List.mem_cons_of_mem _ tw_1088)) ⟨Nat.le_of_ble_eq_true rfl, Nat.le_of_ble_eq_true rfl⟩) (fl_preV hK hSt hN hS hP (by decide) (kg_MD) rfl) rfl rfl hl.1 rfl (lv_room (Nat.le_of_ble_eq_true rfl)) d_MD_activeReport_118 ⟨Nat.zero_le _, Nat.zero_le _⟩) hS (fun H locs hP hS => ?_)
                  refine lv_goto (tgt := 163) hx hb d_MD_activeReport_121 (by decide) ?_
                  exact fl_vret hx hb hr hlocks hP hS (by rw [hG]) d_MD_activeReport_163
            ·
              have hG := hG.trans (if_neg h_19)
              refine lv_aload_n hx hb d_MD_activeReport_96 rfl (lv_at hl 1 rfl) ?_
              refine gg_MD (k := 35) (v := .int ((fl_i (fl_i (fl_i M 0 30 ((M.1 0 30) - ((x1 - ((M.1 0 29) - (M.1 0 30))) &&& 15))) 0 34 1) 0 36 ((fl_i (fl_i M 0 30 ((M.1 0 30) - ((x1 - ((M.1 0 29) - (M.1 0 30))) &&& 15))) 0 34 1).1 0 1)).1 0 35)) hx hb hts hown hK hP  (hts _ (List.mem_cons_of_mem _ tw_816)) (by decide) rfl rfl d_MD_activeReport_97 ?_
              refine lv_if_ne (tgt := 163) hx hb d_MD_activeReport_100 (by decide) (fun h_24 => ?_) (fun h_24 => ?_)
              ·
                have hG := hG.trans (if_neg h_24)
                exact fl_vret hx hb hr hlocks hP hS (by rw [hG]) d_MD_activeReport_163
              ·
                have hG := hG.trans (if_pos h_24)
                refine lv_iload hx hb d_MD_activeReport_103 (lv_at hl 0 rfl) ?_
                refine lv_if_ne (tgt := 124) hx hb d_MD_activeReport_105 (by decide) (fun h_25 => ?_) (fun h_25 => ?_)
                ·
                  have hG := hG.trans (if_neg h_25)
                  refine lv_aload_n hx hb d_MD_activeReport_124 rfl (lv_at hl 1 rfl) ?_
                  refine lv_iload hx hb d_MD_activeReport_125 (lv_at hl 0 rfl) ?_
                  refine lv_if_ne (tgt := 139) hx hb d_MD_activeReport_127 (by decide) (fun _ => ?_) (fun h_26 => absurd h_26 (h_25))
                  refine lv_aload_n hx hb d_MD_activeReport_139 rfl (lv_at hl 1 rfl) ?_
                  refine gg_MD (k := 34) (v := .int ((fl_i (fl_i (fl_i M 0 30 ((M.1 0 30) - ((x1 - ((M.1 0 29) - (M.1 0 30))) &&& 15))) 0 34 1) 0 36 ((fl_i (fl_i M 0 30 ((M.1 0 30) - ((x1 - ((M.1 0 29) - (M.1 0 30))) &&& 15))) 0 34 1).1 0 1)).1 0 34)) hx hb hts hown hK hP  (hts _ (List.mem_cons_of_mem _ tw_815)) (by decide) rfl rfl d_MD_activeReport_140 ?_
                  refine pg_MD (k := 34) hx hb hts hown hK hi hP hS  (hts _ (List.mem_cons_of_mem _ tw_815)) (by decide) rfl rfl rfl rfl (Nat.le_of_ble_eq_true rfl) rfl d_MD_activeReport_143 (fun H locs hP hS => ?_)
                  refine lv_aload_n hx hb d_MD_activeReport_146 rfl (lv_at hl 1 rfl) ?_
                  refine fl_callv (va_runV (As := []) (rest := []) ⟨hx, hb, hml, hown, hts⟩ (c_MD_markAll l hi (fl_i (fl_i (fl_i (fl_i M 0 30 ((M.1 0 30) - ((x1 - ((M.1 0 29) - (M.1 0 30))) &&& 15))) 0 34 1) 0 36 ((fl_i (fl_i M 0 30 ((M.1 0 30) - ((x1 - ((M.1 0 29) - (M.1 0 30))) &&& 15))) 0 34 1).1 0 1)) 0 34 ((fl_i (fl_i (fl_i M 0 30 ((M.1 0 30) - ((x1 - ((M.1 0 29) - (M.1 0 30))) &&& 15))) 0 34 1) 0 36 ((fl_i (fl_i M 0 30 ((M.1 0 30) - ((x1 - ((M.1 0 29) - (M.1 0 30))) &&& 15))) 0 34 1).1 0 1)).1 0 34)) ((op_sub hu hu16 (by assumption)).1) ((op_sub hu hu16 (by assumption)).2)) (kv_MD_markAll hts (hts _ (List.mem_cons_of_mem _ tw_1092)) ⟨Nat.le_of_ble_eq_true rfl, Nat.le_of_ble_eq_true rfl⟩) (fl_preV hK hSt hN hS hP (by decide) (kg_MD) rfl) rfl rfl hl.1 rfl (lv_room (Nat.le_of_ble_eq_true rfl)) d_MD_activeReport_147 ⟨Nat.zero_le _, Nat.zero_le _⟩) hS (fun H locs hP hS => ?_)
                  refine lv_aload_n hx hb d_MD_activeReport_150 rfl (lv_at hl 1 rfl) ?_
                  refine lv_iconst (v := 1) hx hb d_MD_activeReport_151 (by decide) ?_
                  refine pg_MD (k := 35) hx hb hts hown hK hi hP hS  (hts _ (List.mem_cons_of_mem _ tw_816)) (by decide) rfl rfl (rfl) (rfl) (Nat.le_of_ble_eq_true rfl) rfl d_MD_activeReport_152 (fun H locs hP hS => ?_)
                  refine lv_aload_n hx hb d_MD_activeReport_155 rfl (lv_at hl 1 rfl) ?_
                  refine lv_aload_n hx hb d_MD_activeReport_156 rfl (lv_at hl 1 rfl) ?_
                  refine gg_MD (k := 1) (v := .int ((fl_i (g_MD_markAll (fl_i (fl_i (fl_i (fl_i M 0 30 ((M.1 0 30) - ((x1 - ((M.1 0 29) - (M.1 0 30))) &&& 15))) 0 34 1) 0 36 ((fl_i (fl_i M 0 30 ((M.1 0 30) - ((x1 - ((M.1 0 29) - (M.1 0 30))) &&& 15))) 0 34 1).1 0 1)) 0 34 ((fl_i (fl_i (fl_i M 0 30 ((M.1 0 30) - ((x1 - ((M.1 0 29) - (M.1 0 30))) &&& 15))) 0 34 1) 0 36 ((fl_i (fl_i M 0 30 ((M.1 0 30) - ((x1 - ((M.1 0 29) - (M.1 0 30))) &&& 15))) 0 34 1).1 0 1)).1 0 34))) 0 35 1).1 0 1)) hx hb hts hown hK hP  (hts _ (List.mem_cons_of_mem _ tw_782)) (by decide) rfl rfl d_MD_activeReport_157 ?_
                  refine pg_MD (k := 36) hx hb hts hown hK hi hP hS  (hts _ (List.mem_cons_of_mem _ tw_817)) (by decide) rfl rfl rfl rfl (Nat.le_of_ble_eq_true rfl) rfl d_MD_activeReport_160 (fun H locs hP hS => ?_)
                  exact fl_vret hx hb hr hlocks hP hS (by rw [hG]) d_MD_activeReport_163
                ·
                  have hG := hG.trans (if_pos h_25)
                  refine lv_aload_n hx hb d_MD_activeReport_108 rfl (lv_at hl 1 rfl) ?_
                  refine gg_MD (k := 34) (v := .int ((fl_i (fl_i (fl_i M 0 30 ((M.1 0 30) - ((x1 - ((M.1 0 29) - (M.1 0 30))) &&& 15))) 0 34 1) 0 36 ((fl_i (fl_i M 0 30 ((M.1 0 30) - ((x1 - ((M.1 0 29) - (M.1 0 30))) &&& 15))) 0 34 1).1 0 1)).1 0 34)) hx hb hts hown hK hP  (hts _ (List.mem_cons_of_mem _ tw_815)) (by decide) rfl rfl d_MD_activeReport_109 ?_
                  refine lv_iconst (v := 4) hx hb d_MD_activeReport_112 (by decide) ?_
                  refine lv_icmp_ne (tgt := 124) hx hb d_MD_activeReport_113 (by decide) (fun h_27 => ?_) (fun h_27 => ?_)
                  ·
                    have hG := hG.trans (if_neg h_27)
                    refine lv_aload_n hx hb d_MD_activeReport_124 rfl (lv_at hl 1 rfl) ?_
                    refine lv_iload hx hb d_MD_activeReport_125 (lv_at hl 0 rfl) ?_
                    refine lv_if_ne (tgt := 139) hx hb d_MD_activeReport_127 (by decide) (fun h_28 => absurd (h_25) h_28) (fun _ => ?_)
                    refine lv_aload_n hx hb d_MD_activeReport_130 rfl (lv_at hl 1 rfl) ?_
                    refine gg_MD (k := 34) (v := .int ((fl_i (fl_i (fl_i M 0 30 ((M.1 0 30) - ((x1 - ((M.1 0 29) - (M.1 0 30))) &&& 15))) 0 34 1) 0 36 ((fl_i (fl_i M 0 30 ((M.1 0 30) - ((x1 - ((M.1 0 29) - (M.1 0 30))) &&& 15))) 0 34 1).1 0 1)).1 0 34)) hx hb hts hown hK hP  (hts _ (List.mem_cons_of_mem _ tw_815)) (by decide) rfl rfl d_MD_activeReport_131 ?_
                    refine lv_iconst (v := 1) hx hb d_MD_activeReport_134 (by decide) ?_
                    refine lv_iadd hx hb d_MD_activeReport_135 ?_
                    refine lv_goto (tgt := 143) hx hb d_MD_activeReport_136 (by decide) ?_
                    refine pg_MD (k := 34) hx hb hts hown hK hi hP hS  (hts _ (List.mem_cons_of_mem _ tw_815)) (by decide) rfl rfl rfl rfl (Nat.le_of_ble_eq_true rfl) rfl d_MD_activeReport_143 (fun H locs hP hS => ?_)
                    refine lv_aload_n hx hb d_MD_activeReport_146 rfl (lv_at hl 1 rfl) ?_
                    refine fl_callv (va_runV (As := []) (rest := []) ⟨hx, hb, hml, hown, hts⟩ (c_MD_markAll l hi (fl_i (fl_i (fl_i (fl_i M 0 30 ((M.1 0 30) - ((x1 - ((M.1 0 29) - (M.1 0 30))) &&& 15))) 0 34 1) 0 36 ((fl_i (fl_i M 0 30 ((M.1 0 30) - ((x1 - ((M.1 0 29) - (M.1 0 30))) &&& 15))) 0 34 1).1 0 1)) 0 34 (((fl_i (fl_i (fl_i M 0 30 ((M.1 0 30) - ((x1 - ((M.1 0 29) - (M.1 0 30))) &&& 15))) 0 34 1) 0 36 ((fl_i (fl_i M 0 30 ((M.1 0 30) - ((x1 - ((M.1 0 29) - (M.1 0 30))) &&& 15))) 0 34 1).1 0 1)).1 0 34) + 1)) ((op_sub hu hu16 (by assumption)).1) ((op_sub hu hu16 (by assumption)).2)) (kv_MD_markAll hts (hts _ (List.mem_cons_of_mem _ tw_1092)) ⟨Nat.le_of_ble_eq_true rfl, Nat.le_of_ble_eq_true rfl⟩) (fl_preV hK hSt hN hS hP (by decide) (kg_MD) rfl) rfl rfl hl.1 rfl (lv_room (Nat.le_of_ble_eq_true rfl)) d_MD_activeReport_147 ⟨Nat.zero_le _, Nat.zero_le _⟩) hS (fun H locs hP hS => ?_)
                    refine lv_aload_n hx hb d_MD_activeReport_150 rfl (lv_at hl 1 rfl) ?_
                    refine lv_iconst (v := 1) hx hb d_MD_activeReport_151 (by decide) ?_
                    refine pg_MD (k := 35) hx hb hts hown hK hi hP hS  (hts _ (List.mem_cons_of_mem _ tw_816)) (by decide) rfl rfl (rfl) (rfl) (Nat.le_of_ble_eq_true rfl) rfl d_MD_activeReport_152 (fun H locs hP hS => ?_)
                    refine lv_aload_n hx hb d_MD_activeReport_155 rfl (lv_at hl 1 rfl) ?_
                    refine lv_aload_n hx hb d_MD_activeReport_156 rfl (lv_at hl 1 rfl) ?_
                    refine gg_MD (k := 1) (v := .int ((fl_i (g_MD_markAll (fl_i (fl_i (fl_i (fl_i M 0 30 ((M.1 0 30) - ((x1 - ((M.1 0 29) - (M.1 0 30))) &&& 15))) 0 34 1) 0 36 ((fl_i (fl_i M 0 30 ((M.1 0 30) - ((x1 - ((M.1 0 29) - (M.1 0 30))) &&& 15))) 0 34 1).1 0 1)) 0 34 (((fl_i (fl_i (fl_i M 0 30 ((M.1 0 30) - ((x1 - ((M.1 0 29) - (M.1 0 30))) &&& 15))) 0 34 1) 0 36 ((fl_i (fl_i M 0 30 ((M.1 0 30) - ((x1 - ((M.1 0 29) - (M.1 0 30))) &&& 15))) 0 34 1).1 0 1)).1 0 34) + 1))) 0 35 1).1 0 1)) hx hb hts hown hK hP  (hts _ (List.mem_cons_of_mem _ tw_782)) (by decide) rfl rfl d_MD_activeReport_157 ?_
                    refine pg_MD (k := 36) hx hb hts hown hK hi hP hS  (hts _ (List.mem_cons_of_mem _ tw_817)) (by decide) rfl rfl rfl rfl (Nat.le_of_ble_eq_true rfl) rfl d_MD_activeReport_160 (fun H locs hP hS => ?_)
                    exact fl_vret hx hb hr hlocks hP hS (by rw [hG]) d_MD_activeReport_163
                  ·
                    have hG := hG.trans (if_pos h_27)
                    refine lv_aload_n hx hb d_MD_activeReport_116 rfl (lv_at hl 1 rfl) ?_
                    refine lv_iconst (v := 2) hx hb d_MD_activeReport_117 (by decide) ?_
                    refine fl_callv (va_runV (As := [.int 2]) (rest := []) ⟨hx, hb, hml, hown, hts⟩ (c_MD_alert l hi (fl_i (fl_i (fl_i M 0 30 ((M.1 0 30) - ((x1 - ((M.1 0 29) - (M.1 0 30))) &&& 15))) 0 34 1) 0 36 ((fl_i (fl_i M 0 30 ((M.1 0 30) - ((x1 - ((M.1 0 29) - (M.1 0 30))) &&& 15))) 0 34 1).1 0 1)) 2) (kv_MD_alert hts (hts _ (List.mem_cons_of_mem _ tw_1088)) ⟨Nat.le_of_ble_eq_true rfl, Nat.le_of_ble_eq_true rfl⟩) (fl_preV hK hSt hN hS hP (by decide) (kg_MD) rfl) rfl rfl hl.1 rfl (lv_room (Nat.le_of_ble_eq_true rfl)) d_MD_activeReport_118 ⟨Nat.zero_le _, Nat.zero_le _⟩) hS (fun H locs hP hS => ?_)
                    refine lv_goto (tgt := 163) hx hb d_MD_activeReport_121 (by decide) ?_
                    exact fl_vret hx hb hr hlocks hP hS (by rw [hG]) d_MD_activeReport_163
        ·
          have hG := hG.trans (if_pos h_17)
          refine lv_aload_n hx hb d_MD_activeReport_76 rfl (lv_at hl 1 rfl) ?_
          refine lv_iconst (v := 0) hx hb d_MD_activeReport_77 (by decide) ?_
          refine pg_MD (k := 35) hx hb hts hown hK hi hP hS  (hts _ (List.mem_cons_of_mem _ tw_816)) (by decide) rfl rfl (rfl) (rfl) (Nat.le_of_ble_eq_true rfl) rfl d_MD_activeReport_78 (fun H locs hP hS => ?_)
          refine lv_goto (tgt := 163) hx hb d_MD_activeReport_81 (by decide) ?_
          exact fl_vret hx hb hr hlocks hP hS (by rw [hG]) d_MD_activeReport_163
    ·
      have hG := hG.trans (if_neg h_3)
      refine lv_aload_n hx hb d_MD_activeReport_29 rfl (lv_at hl 1 rfl) ?_
      refine lv_iload_n hx hb d_MD_activeReport_30 rfl (lv_at hl 3 rfl) ?_
      refine lv_if_eq (tgt := 38) hx hb d_MD_activeReport_31 (by decide) (fun _ => ?_) (fun h_29 => absurd (h_1) h_29)
      refine lv_iconst (v := 2) hx hb d_MD_activeReport_38 (by decide) ?_
      refine fl_callv (va_runV (As := [.int 2]) (rest := []) ⟨hx, hb, hml, hown, hts⟩ (c_MD_alert l hi M 2) (kv_MD_alert hts (hts _ (List.mem_cons_of_mem _ tw_1088)) ⟨Nat.le_of_ble_eq_true rfl, Nat.le_of_ble_eq_true rfl⟩) (fl_preV hK hSt hN hS hP (by decide) (kg_MD) rfl) rfl rfl hl.1 rfl (lv_room (Nat.le_of_ble_eq_true rfl)) d_MD_activeReport_39 ⟨Nat.zero_le _, Nat.zero_le _⟩) hS (fun H locs hP hS => ?_)
      exact fl_vret hx hb hr hlocks hP hS (by rw [hG]) d_MD_activeReport_42
theorem hd_MD_activeReport : y_MD_activeReport.cls ≠ "java/lang/invoke/MethodHandle" ∧ y_MD_activeReport.cls ≠ "java/lang/invoke/VarHandle" ∧ (parseMethodDescriptor y_MD_activeReport.desc).map (fun d => d.parameters.length) = some 3 := by decide +kernel
theorem kv_MD_activeReport {R : Room} {s : State} {args : Array Value} {c0 : Cond} {own : String} {index : Nat} (hts : ∀ w ∈ c0 :: gw, w.before args s = true) (hl : (Cond.methodLink own index y_MD_activeReport).before args s = true) (hR : 1 + 1 ≤ R.frames ∧ 8 + (5 + 11) + 21 ≤ R.locals) : CallW R s args own "FarLinkModel" index y_MD_activeReport b_MD_activeReport 5 none w_MD_activeReport ({ frames := 1, cells := 0, slots := 0, locals := 21 } : Room) 0 0 3 := ⟨callB_of 3 hts (gw_in tw_1087) rfl rfl rfl (hts _ (List.mem_cons_of_mem _ tw_10)) hl hd_MD_activeReport hR, hts _ (List.mem_cons_of_mem _ tw_1086), hts _ (List.mem_cons_of_mem _ ps_MD_activeReport)⟩
def g_MD_groundReport (M : fl_M) (x1 : Int64) : fl_M :=
  if (lg_cmp (x1 &&& 16) 0) = 0 then (if (lg_cmp (x1 &&& 32) 0) = 0 then (if (M.1 0 28) = 0 then ((g_MD_activeReport M ((x1 &&& 15).toInt32) 0 0)) else (if (M.1 0 28) = 1 then (if (M.1 0 33) = 0 then ((fl_i (fl_i M 0 33 1) 0 28 2)) else ((fl_i (fl_i M 0 33 1) 0 28 2))) else (if ((x1 &&& 15).toInt32) = (M.1 0 29) then ((fl_i (fl_i M 0 28 0) 0 33 0)) else (M)))) else (if (M.1 0 28) = 0 then ((g_MD_activeReport M ((x1 &&& 15).toInt32) 0 1)) else (if (M.1 0 28) = 1 then (if (M.1 0 33) = 0 then ((fl_i (fl_i M 0 33 1) 0 28 2)) else ((fl_i (fl_i M 0 33 1) 0 28 2))) else (if ((x1 &&& 15).toInt32) = (M.1 0 29) then (M) else (M))))) else (if (lg_cmp (x1 &&& 32) 0) = 0 then (if (M.1 0 28) = 0 then ((g_MD_activeReport M ((x1 &&& 15).toInt32) 1 0)) else (if (M.1 0 28) = 1 then (if (M.1 0 33) = 0 then ((fl_i (fl_i M 0 33 0) 0 28 1)) else ((fl_i (fl_i M 0 33 1) 0 28 1))) else ((fl_i (fl_i M 0 28 1) 0 33 1)))) else (if (M.1 0 28) = 0 then ((g_MD_activeReport M ((x1 &&& 15).toInt32) 1 1)) else (if (M.1 0 28) = 1 then (if (M.1 0 33) = 0 then ((fl_i (fl_i M 0 33 0) 0 28 1)) else ((fl_i (fl_i M 0 33 1) 0 28 1))) else ((fl_i (fl_i M 0 28 1) 0 33 1)))))
set_option maxHeartbeats 400000 in
set_option maxRecDepth 100000 in
theorem c_MD_groundReport (l : Launch) {D : va_G} {ad : Nat → Nat} {cA : Nat → ClassId} (hi : fl_inj ad 41) (M : fl_M) (x1 : Int64) (hu : nn (M.1 0 30)) (hu16 : (M.1 0 30).toNatClampNeg ≤ 16) : Met l y_MD_groundReport w_MD_groundReport ({ frames := 2, cells := 0, slots := 0, locals := 45 } : Room) (va_Pc [.ref (ad 0), .long x1] (fl_B D cls (yt cA) ([] : fl_L) ([] : fl_FN) ([] : fl_MN) ad (yc ad cA) 41 M)) (va_Qv (fun M' => M' = (g_MD_groundReport M x1)) (fl_E D cls ad (yc ad cA) 41) (fl_A ad 41)) 0 0 (fl_A ad 41) := by
  refine Met.ofW (cc := b_MD_groundReport) (maxL := 6) (ret := none) (by decide) rfl ?_
  intro p e s m args below meth c s₁ B hml hv
  obtain ⟨rfl, hP, hK, hSt, hN⟩ := hv
  have hx := B.exec
  have hb := B.bytes
  have hr := B.returns
  have hts := atoms_spec (ws := w_MD_groundReport) B.pre
  have hown : s.vm.findClass "FarLinkModel" = some m.cls := findClass_of_methodNamed B.named
  have hlocks := B.notSynchronized
  have hS : va_S (fl_A ad 41) s.heap s.heap [] := va_S.rf
  have hl := lv_entry ([.ref (ad 0), .long x1]) (n := 6) (Nat.le_of_ble_eq_true rfl)
  rw [lg_entry_eq]
  generalize (lg_sl ([.ref (ad 0), .long x1]) ++ List.replicate (6 - (lg_sl ([.ref (ad 0), .long x1])).length) Slot.unset).toArray = ls at hl ⊢
  have hl : lv_has ls 6 [(0, .ref (ad 0)), (1, .long x1)] := hl
  have hG := g_MD_groundReport.eq_1 M x1
  refine lv_lload_n hx hb d_MD_groundReport_0 rfl (lv_at hl 1 rfl) ?_
  refine lv_ldc2 (v := 15) hx hb hown (hts _ (List.mem_cons_of_mem _ tw_780)) d_MD_groundReport_1 ?_
  refine lv_land hx hb d_MD_groundReport_4 ?_
  refine lv_l2i (v := (x1 &&& 15).toInt32) hx hb d_MD_groundReport_5 rfl ?_
  refine lv_istore_n (lv' := [(3, .int ((x1 &&& 15).toInt32)), (0, .ref (ad 0)), (1, .long x1)]) hx hb d_MD_groundReport_6 rfl hl (by decide) rfl (fun ls hl => ?_)
  refine lv_lload_n hx hb d_MD_groundReport_7 rfl (lv_at hl 2 rfl) ?_
  refine lv_ldc2 (v := 16) hx hb hown (hts _ (List.mem_cons_of_mem _ tw_1073)) d_MD_groundReport_8 ?_
  refine lv_land hx hb d_MD_groundReport_11 ?_
  refine lv_lconst (v := 0) hx hb d_MD_groundReport_12 (by decide) ?_
  refine W.lcmp hx hb d_MD_groundReport_13 ?_
  refine lv_if_eq (tgt := 21) hx hb d_MD_groundReport_14 (by decide) (fun h_1 => ?_) (fun h_1 => ?_)
  ·
    have hG := hG.trans (if_pos h_1)
    refine lv_iconst (v := 0) hx hb d_MD_groundReport_21 (by decide) ?_
    refine lv_istore (lv' := [(4, .int 0), (3, .int ((x1 &&& 15).toInt32)), (0, .ref (ad 0)), (1, .long x1)]) hx hb d_MD_groundReport_22 hl (by decide) rfl (fun ls hl => ?_)
    refine lv_lload_n hx hb d_MD_groundReport_24 rfl (lv_at hl 3 rfl) ?_
    refine lv_ldc2 (v := 32) hx hb hown (hts _ (List.mem_cons_of_mem _ tw_1074)) d_MD_groundReport_25 ?_
    refine lv_land hx hb d_MD_groundReport_28 ?_
    refine lv_lconst (v := 0) hx hb d_MD_groundReport_29 (by decide) ?_
    refine W.lcmp hx hb d_MD_groundReport_30 ?_
    refine lv_if_eq (tgt := 38) hx hb d_MD_groundReport_31 (by decide) (fun h_2 => ?_) (fun h_2 => ?_)
    ·
      have hG := hG.trans (if_pos h_2)
      refine lv_iconst (v := 0) hx hb d_MD_groundReport_38 (by decide) ?_
      refine lv_istore (lv' := [(5, .int 0), (4, .int 0), (3, .int ((x1 &&& 15).toInt32)), (0, .ref (ad 0)), (1, .long x1)]) hx hb d_MD_groundReport_39 hl (by decide) rfl (fun ls hl => ?_)
      refine lv_aload_n hx hb d_MD_groundReport_41 rfl (lv_at hl 3 rfl) ?_
      refine gg_MD (k := 28) (v := .int (M.1 0 28)) hx hb hts hown hK hP  (hts _ (List.mem_cons_of_mem _ tw_809)) (by decide) rfl rfl d_MD_groundReport_42 ?_
      refine lv_if_ne (tgt := 60) hx hb d_MD_groundReport_45 (by decide) (fun h_3 => ?_) (fun h_3 => ?_)
      ·
        have hG := hG.trans (if_neg h_3)
        refine lv_aload_n hx hb d_MD_groundReport_60 rfl (lv_at hl 3 rfl) ?_
        refine gg_MD (k := 28) (v := .int (M.1 0 28)) hx hb hts hown hK hP  (hts _ (List.mem_cons_of_mem _ tw_809)) (by decide) rfl rfl d_MD_groundReport_61 ?_
        refine lv_iconst (v := 1) hx hb d_MD_groundReport_64 (by decide) ?_
        refine lv_icmp_ne (tgt := 106) hx hb d_MD_groundReport_65 (by decide) (fun h_4 => ?_) (fun h_4 => ?_)
        ·
          have hG := hG.trans (if_neg h_4)
          refine lv_iload hx hb d_MD_groundReport_106 (lv_at hl 1 rfl) ?_
          refine lv_if_eq (tgt := 124) hx hb d_MD_groundReport_108 (by decide) (fun _ => ?_) (fun h_5 => absurd (by decide) h_5)
          refine lv_iload_n hx hb d_MD_groundReport_124 rfl (lv_at hl 2 rfl) ?_
          refine lv_aload_n hx hb d_MD_groundReport_125 rfl (lv_at hl 3 rfl) ?_
          refine gg_MD (k := 29) (v := .int (M.1 0 29)) hx hb hts hown hK hP  (hts _ (List.mem_cons_of_mem _ tw_810)) (by decide) rfl rfl d_MD_groundReport_126 ?_
          refine lv_icmp_ne (tgt := 147) hx hb d_MD_groundReport_129 (by decide) (fun h_6 => ?_) (fun h_6 => ?_)
          ·
            have hG := hG.trans (if_neg h_6)
            exact fl_vret hx hb hr hlocks hP hS (by rw [hG]) d_MD_groundReport_147
          ·
            have hG := hG.trans (if_pos h_6)
            refine lv_iload hx hb d_MD_groundReport_132 (lv_at hl 0 rfl) ?_
            refine lv_if_ne (tgt := 147) hx hb d_MD_groundReport_134 (by decide) (fun h_7 => absurd (by decide) h_7) (fun _ => ?_)
            refine lv_aload_n hx hb d_MD_groundReport_137 rfl (lv_at hl 3 rfl) ?_
            refine lv_iconst (v := 0) hx hb d_MD_groundReport_138 (by decide) ?_
            refine pg_MD (k := 28) hx hb hts hown hK hi hP hS  (hts _ (List.mem_cons_of_mem _ tw_809)) (by decide) rfl rfl rfl rfl (Nat.le_of_ble_eq_true rfl) rfl d_MD_groundReport_139 (fun H locs hP hS => ?_)
            refine lv_aload_n hx hb d_MD_groundReport_142 rfl (lv_at hl 3 rfl) ?_
            refine lv_iconst (v := 0) hx hb d_MD_groundReport_143 (by decide) ?_
            refine pg_MD (k := 33) hx hb hts hown hK hi hP hS  (hts _ (List.mem_cons_of_mem _ tw_814)) (by decide) rfl rfl (rfl) (rfl) (Nat.le_of_ble_eq_true rfl) rfl d_MD_groundReport_144 (fun H locs hP hS => ?_)
            exact fl_vret hx hb hr hlocks hP hS (by rw [hG]) d_MD_groundReport_147
        ·
          have hG := hG.trans (if_pos h_4)
          refine lv_aload_n hx hb d_MD_groundReport_68 rfl (lv_at hl 3 rfl) ?_
          refine lv_aload_n hx hb d_MD_groundReport_69 rfl (lv_at hl 3 rfl) ?_
          refine gg_MD (k := 33) (v := .int (M.1 0 33)) hx hb hts hown hK hP  (hts _ (List.mem_cons_of_mem _ tw_814)) (by decide) rfl rfl d_MD_groundReport_70 ?_
          refine lv_if_ne (tgt := 81) hx hb d_MD_groundReport_73 (by decide) (fun h_8 => ?_) (fun h_8 => ?_)
          ·
            have hG := hG.trans (if_neg h_8)
            refine lv_iconst (v := 1) hx hb d_MD_groundReport_81 (by decide) ?_
            refine lv_goto (tgt := 86) hx hb d_MD_groundReport_82 (by decide) ?_
            refine pg_MD (k := 33) hx hb hts hown hK hi hP hS  (hts _ (List.mem_cons_of_mem _ tw_814)) (by decide) rfl rfl (rfl) (rfl) (Nat.le_of_ble_eq_true rfl) rfl d_MD_groundReport_86 (fun H locs hP hS => ?_)
            refine lv_aload_n hx hb d_MD_groundReport_89 rfl (lv_at hl 3 rfl) ?_
            refine lv_iload hx hb d_MD_groundReport_90 (lv_at hl 1 rfl) ?_
            refine lv_if_eq (tgt := 99) hx hb d_MD_groundReport_92 (by decide) (fun _ => ?_) (fun h_9 => absurd (by decide) h_9)
            refine lv_iconst (v := 2) hx hb d_MD_groundReport_99 (by decide) ?_
            refine pg_MD (k := 28) hx hb hts hown hK hi hP hS  (hts _ (List.mem_cons_of_mem _ tw_809)) (by decide) rfl rfl rfl rfl (Nat.le_of_ble_eq_true rfl) rfl d_MD_groundReport_100 (fun H locs hP hS => ?_)
            refine lv_goto (tgt := 147) hx hb d_MD_groundReport_103 (by decide) ?_
            exact fl_vret hx hb hr hlocks hP hS (by rw [hG]) d_MD_groundReport_147
          ·
            have hG := hG.trans (if_pos h_8)
            refine lv_iload hx hb d_MD_groundReport_76 (lv_at hl 1 rfl) ?_
            refine lv_if_ne (tgt := 85) hx hb d_MD_groundReport_78 (by decide) (fun h_10 => absurd (by decide) h_10) (fun _ => ?_)
            refine lv_iconst (v := 1) hx hb d_MD_groundReport_81 (by decide) ?_
            refine lv_goto (tgt := 86) hx hb d_MD_groundReport_82 (by decide) ?_
            refine pg_MD (k := 33) hx hb hts hown hK hi hP hS  (hts _ (List.mem_cons_of_mem _ tw_814)) (by decide) rfl rfl (rfl) (rfl) (Nat.le_of_ble_eq_true rfl) rfl d_MD_groundReport_86 (fun H locs hP hS => ?_)
            refine lv_aload_n hx hb d_MD_groundReport_89 rfl (lv_at hl 3 rfl) ?_
            refine lv_iload hx hb d_MD_groundReport_90 (lv_at hl 1 rfl) ?_
            refine lv_if_eq (tgt := 99) hx hb d_MD_groundReport_92 (by decide) (fun _ => ?_) (fun h_11 => absurd (by decide) h_11)
            refine lv_iconst (v := 2) hx hb d_MD_groundReport_99 (by decide) ?_
            refine pg_MD (k := 28) hx hb hts hown hK hi hP hS  (hts _ (List.mem_cons_of_mem _ tw_809)) (by decide) rfl rfl rfl rfl (Nat.le_of_ble_eq_true rfl) rfl d_MD_groundReport_100 (fun H locs hP hS => ?_)
            refine lv_goto (tgt := 147) hx hb d_MD_groundReport_103 (by decide) ?_
            exact fl_vret hx hb hr hlocks hP hS (by rw [hG]) d_MD_groundReport_147
      ·
        have hG := hG.trans (if_pos h_3)
        refine lv_aload_n hx hb d_MD_groundReport_48 rfl (lv_at hl 3 rfl) ?_
        refine lv_iload_n hx hb d_MD_groundReport_49 rfl (lv_at hl 2 rfl) ?_
        refine lv_iload hx hb d_MD_groundReport_50 (lv_at hl 1 rfl) ?_
        refine lv_iload hx hb d_MD_groundReport_52 (lv_at hl 0 rfl) ?_
        refine fl_callv (va_runV (As := [.int ((x1 &&& 15).toInt32), .int 0, .int 0]) (rest := []) ⟨hx, hb, hml, hown, hts⟩ (c_MD_activeReport l hi M ((x1 &&& 15).toInt32) 0 0 (by assumption) (by assumption)) (kv_MD_activeReport hts (hts _ (List.mem_cons_of_mem _ tw_1084)) ⟨Nat.le_of_ble_eq_true rfl, Nat.le_of_ble_eq_true rfl⟩) (fl_preV hK hSt hN hS hP (by decide) (kg_MD) rfl) rfl rfl hl.1 rfl (lv_room (Nat.le_of_ble_eq_true rfl)) d_MD_groundReport_54 ⟨Nat.zero_le _, Nat.zero_le _⟩) hS (fun H locs hP hS => ?_)
        refine lv_goto (tgt := 147) hx hb d_MD_groundReport_57 (by decide) ?_
        exact fl_vret hx hb hr hlocks hP hS (by rw [hG]) d_MD_groundReport_147
    ·
      have hG := hG.trans (if_neg h_2)
      refine lv_iconst (v := 1) hx hb d_MD_groundReport_34 (by decide) ?_
      refine lv_goto (tgt := 39) hx hb d_MD_groundReport_35 (by decide) ?_
      refine lv_istore (lv' := [(5, .int 1), (4, .int 0), (3, .int ((x1 &&& 15).toInt32)), (0, .ref (ad 0)), (1, .long x1)]) hx hb d_MD_groundReport_39 hl (by decide) rfl (fun ls hl => ?_)
      refine lv_aload_n hx hb d_MD_groundReport_41 rfl (lv_at hl 3 rfl) ?_
      refine gg_MD (k := 28) (v := .int (M.1 0 28)) hx hb hts hown hK hP  (hts _ (List.mem_cons_of_mem _ tw_809)) (by decide) rfl rfl d_MD_groundReport_42 ?_
      refine lv_if_ne (tgt := 60) hx hb d_MD_groundReport_45 (by decide) (fun h_12 => ?_) (fun h_12 => ?_)
      ·
        have hG := hG.trans (if_neg h_12)
        refine lv_aload_n hx hb d_MD_groundReport_60 rfl (lv_at hl 3 rfl) ?_
        refine gg_MD (k := 28) (v := .int (M.1 0 28)) hx hb hts hown hK hP  (hts _ (List.mem_cons_of_mem _ tw_809)) (by decide) rfl rfl d_MD_groundReport_61 ?_
        refine lv_iconst (v := 1) hx hb d_MD_groundReport_64 (by decide) ?_
        refine lv_icmp_ne (tgt := 106) hx hb d_MD_groundReport_65 (by decide) (fun h_13 => ?_) (fun h_13 => ?_)
        ·
          have hG := hG.trans (if_neg h_13)
          refine lv_iload hx hb d_MD_groundReport_106 (lv_at hl 1 rfl) ?_
          refine lv_if_eq (tgt := 124) hx hb d_MD_groundReport_108 (by decide) (fun _ => ?_) (fun h_14 => absurd (by decide) h_14)
          refine lv_iload_n hx hb d_MD_groundReport_124 rfl (lv_at hl 2 rfl) ?_
          refine lv_aload_n hx hb d_MD_groundReport_125 rfl (lv_at hl 3 rfl) ?_
          refine gg_MD (k := 29) (v := .int (M.1 0 29)) hx hb hts hown hK hP  (hts _ (List.mem_cons_of_mem _ tw_810)) (by decide) rfl rfl d_MD_groundReport_126 ?_
          refine lv_icmp_ne (tgt := 147) hx hb d_MD_groundReport_129 (by decide) (fun h_15 => ?_) (fun h_15 => ?_)
          ·
            have hG := hG.trans (if_neg h_15)
            exact fl_vret hx hb hr hlocks hP hS (by rw [hG]) d_MD_groundReport_147
          ·
            have hG := hG.trans (if_pos h_15)
            refine lv_iload hx hb d_MD_groundReport_132 (lv_at hl 0 rfl) ?_
            refine lv_if_ne (tgt := 147) hx hb d_MD_groundReport_134 (by decide) (fun _ => ?_) (fun h_16 => absurd h_16 (by decide))
            exact fl_vret hx hb hr hlocks hP hS (by rw [hG]) d_MD_groundReport_147
        ·
          have hG := hG.trans (if_pos h_13)
          refine lv_aload_n hx hb d_MD_groundReport_68 rfl (lv_at hl 3 rfl) ?_
          refine lv_aload_n hx hb d_MD_groundReport_69 rfl (lv_at hl 3 rfl) ?_
          refine gg_MD (k := 33) (v := .int (M.1 0 33)) hx hb hts hown hK hP  (hts _ (List.mem_cons_of_mem _ tw_814)) (by decide) rfl rfl d_MD_groundReport_70 ?_
          refine lv_if_ne (tgt := 81) hx hb d_MD_groundReport_73 (by decide) (fun h_17 => ?_) (fun h_17 => ?_)
          ·
            have hG := hG.trans (if_neg h_17)
            refine lv_iconst (v := 1) hx hb d_MD_groundReport_81 (by decide) ?_
            refine lv_goto (tgt := 86) hx hb d_MD_groundReport_82 (by decide) ?_
            refine pg_MD (k := 33) hx hb hts hown hK hi hP hS  (hts _ (List.mem_cons_of_mem _ tw_814)) (by decide) rfl rfl (rfl) (rfl) (Nat.le_of_ble_eq_true rfl) rfl d_MD_groundReport_86 (fun H locs hP hS => ?_)
            refine lv_aload_n hx hb d_MD_groundReport_89 rfl (lv_at hl 3 rfl) ?_
            refine lv_iload hx hb d_MD_groundReport_90 (lv_at hl 1 rfl) ?_
            refine lv_if_eq (tgt := 99) hx hb d_MD_groundReport_92 (by decide) (fun _ => ?_) (fun h_18 => absurd (by decide) h_18)
            refine lv_iconst (v := 2) hx hb d_MD_groundReport_99 (by decide) ?_
            refine pg_MD (k := 28) hx hb hts hown hK hi hP hS  (hts _ (List.mem_cons_of_mem _ tw_809)) (by decide) rfl rfl rfl rfl (Nat.le_of_ble_eq_true rfl) rfl d_MD_groundReport_100 (fun H locs hP hS => ?_)
            refine lv_goto (tgt := 147) hx hb d_MD_groundReport_103 (by decide) ?_
            exact fl_vret hx hb hr hlocks hP hS (by rw [hG]) d_MD_groundReport_147
          ·
            have hG := hG.trans (if_pos h_17)
            refine lv_iload hx hb d_MD_groundReport_76 (lv_at hl 1 rfl) ?_
            refine lv_if_ne (tgt := 85) hx hb d_MD_groundReport_78 (by decide) (fun h_19 => absurd (by decide) h_19) (fun _ => ?_)
            refine lv_iconst (v := 1) hx hb d_MD_groundReport_81 (by decide) ?_
            refine lv_goto (tgt := 86) hx hb d_MD_groundReport_82 (by decide) ?_
            refine pg_MD (k := 33) hx hb hts hown hK hi hP hS  (hts _ (List.mem_cons_of_mem _ tw_814)) (by decide) rfl rfl (rfl) (rfl) (Nat.le_of_ble_eq_true rfl) rfl d_MD_groundReport_86 (fun H locs hP hS => ?_)
            refine lv_aload_n hx hb d_MD_groundReport_89 rfl (lv_at hl 3 rfl) ?_
            refine lv_iload hx hb d_MD_groundReport_90 (lv_at hl 1 rfl) ?_
            refine lv_if_eq (tgt := 99) hx hb d_MD_groundReport_92 (by decide) (fun _ => ?_) (fun h_20 => absurd (by decide) h_20)
            refine lv_iconst (v := 2) hx hb d_MD_groundReport_99 (by decide) ?_
            refine pg_MD (k := 28) hx hb hts hown hK hi hP hS  (hts _ (List.mem_cons_of_mem _ tw_809)) (by decide) rfl rfl rfl rfl (Nat.le_of_ble_eq_true rfl) rfl d_MD_groundReport_100 (fun H locs hP hS => ?_)
            refine lv_goto (tgt := 147) hx hb d_MD_groundReport_103 (by decide) ?_
            exact fl_vret hx hb hr hlocks hP hS (by rw [hG]) d_MD_groundReport_147
      ·
        have hG := hG.trans (if_pos h_12)
        refine lv_aload_n hx hb d_MD_groundReport_48 rfl (lv_at hl 3 rfl) ?_
        refine lv_iload_n hx hb d_MD_groundReport_49 rfl (lv_at hl 2 rfl) ?_
        refine lv_iload hx hb d_MD_groundReport_50 (lv_at hl 1 rfl) ?_
        refine lv_iload hx hb d_MD_groundReport_52 (lv_at hl 0 rfl) ?_
        refine fl_callv (va_runV (As := [.int ((x1 &&& 15).toInt32), .int 0, .int 1]) (rest := []) ⟨hx, hb, hml, hown, hts⟩ (c_MD_activeReport l hi M ((x1 &&& 15).toInt32) 0 1 (by assumption) (by assumption)) (kv_MD_activeReport hts (hts _ (List.mem_cons_of_mem _ tw_1084)) ⟨Nat.le_of_ble_eq_true rfl, Nat.le_of_ble_eq_true rfl⟩) (fl_preV hK hSt hN hS hP (by decide) (kg_MD) rfl) rfl rfl hl.1 rfl (lv_room (Nat.le_of_ble_eq_true rfl)) d_MD_groundReport_54 ⟨Nat.zero_le _, Nat.zero_le _⟩) hS (fun H locs hP hS => ?_)
        refine lv_goto (tgt := 147) hx hb d_MD_groundReport_57 (by decide) ?_
        exact fl_vret hx hb hr hlocks hP hS (by rw [hG]) d_MD_groundReport_147
  ·
    have hG := hG.trans (if_neg h_1)
    refine lv_iconst (v := 1) hx hb d_MD_groundReport_17 (by decide) ?_
    refine lv_goto (tgt := 22) hx hb d_MD_groundReport_18 (by decide) ?_
    refine lv_istore (lv' := [(4, .int 1), (3, .int ((x1 &&& 15).toInt32)), (0, .ref (ad 0)), (1, .long x1)]) hx hb d_MD_groundReport_22 hl (by decide) rfl (fun ls hl => ?_)
    refine lv_lload_n hx hb d_MD_groundReport_24 rfl (lv_at hl 3 rfl) ?_
    refine lv_ldc2 (v := 32) hx hb hown (hts _ (List.mem_cons_of_mem _ tw_1074)) d_MD_groundReport_25 ?_
    refine lv_land hx hb d_MD_groundReport_28 ?_
    refine lv_lconst (v := 0) hx hb d_MD_groundReport_29 (by decide) ?_
    refine W.lcmp hx hb d_MD_groundReport_30 ?_
    refine lv_if_eq (tgt := 38) hx hb d_MD_groundReport_31 (by decide) (fun h_21 => ?_) (fun h_21 => ?_)
    ·
      have hG := hG.trans (if_pos h_21)
      refine lv_iconst (v := 0) hx hb d_MD_groundReport_38 (by decide) ?_
      refine lv_istore (lv' := [(5, .int 0), (4, .int 1), (3, .int ((x1 &&& 15).toInt32)), (0, .ref (ad 0)), (1, .long x1)]) hx hb d_MD_groundReport_39 hl (by decide) rfl (fun ls hl => ?_)
      refine lv_aload_n hx hb d_MD_groundReport_41 rfl (lv_at hl 3 rfl) ?_
      refine gg_MD (k := 28) (v := .int (M.1 0 28)) hx hb hts hown hK hP  (hts _ (List.mem_cons_of_mem _ tw_809)) (by decide) rfl rfl d_MD_groundReport_42 ?_
      refine lv_if_ne (tgt := 60) hx hb d_MD_groundReport_45 (by decide) (fun h_22 => ?_) (fun h_22 => ?_)
      ·
        have hG := hG.trans (if_neg h_22)
        refine lv_aload_n hx hb d_MD_groundReport_60 rfl (lv_at hl 3 rfl) ?_
        refine gg_MD (k := 28) (v := .int (M.1 0 28)) hx hb hts hown hK hP  (hts _ (List.mem_cons_of_mem _ tw_809)) (by decide) rfl rfl d_MD_groundReport_61 ?_
        refine lv_iconst (v := 1) hx hb d_MD_groundReport_64 (by decide) ?_
        refine lv_icmp_ne (tgt := 106) hx hb d_MD_groundReport_65 (by decide) (fun h_23 => ?_) (fun h_23 => ?_)
        ·
          have hG := hG.trans (if_neg h_23)
          refine lv_iload hx hb d_MD_groundReport_106 (lv_at hl 1 rfl) ?_
          refine lv_if_eq (tgt := 124) hx hb d_MD_groundReport_108 (by decide) (fun h_24 => absurd h_24 (by decide)) (fun _ => ?_)
          refine lv_aload_n hx hb d_MD_groundReport_111 rfl (lv_at hl 3 rfl) ?_
          refine lv_iconst (v := 1) hx hb d_MD_groundReport_112 (by decide) ?_
          refine pg_MD (k := 28) hx hb hts hown hK hi hP hS  (hts _ (List.mem_cons_of_mem _ tw_809)) (by decide) rfl rfl rfl rfl (Nat.le_of_ble_eq_true rfl) rfl d_MD_groundReport_113 (fun H locs hP hS => ?_)
          refine lv_aload_n hx hb d_MD_groundReport_116 rfl (lv_at hl 3 rfl) ?_
          refine lv_iconst (v := 1) hx hb d_MD_groundReport_117 (by decide) ?_
          refine pg_MD (k := 33) hx hb hts hown hK hi hP hS  (hts _ (List.mem_cons_of_mem _ tw_814)) (by decide) rfl rfl (rfl) (rfl) (Nat.le_of_ble_eq_true rfl) rfl d_MD_groundReport_118 (fun H locs hP hS => ?_)
          refine lv_goto (tgt := 147) hx hb d_MD_groundReport_121 (by decide) ?_
          exact fl_vret hx hb hr hlocks hP hS (by rw [hG]) d_MD_groundReport_147
        ·
          have hG := hG.trans (if_pos h_23)
          refine lv_aload_n hx hb d_MD_groundReport_68 rfl (lv_at hl 3 rfl) ?_
          refine lv_aload_n hx hb d_MD_groundReport_69 rfl (lv_at hl 3 rfl) ?_
          refine gg_MD (k := 33) (v := .int (M.1 0 33)) hx hb hts hown hK hP  (hts _ (List.mem_cons_of_mem _ tw_814)) (by decide) rfl rfl d_MD_groundReport_70 ?_
          refine lv_if_ne (tgt := 81) hx hb d_MD_groundReport_73 (by decide) (fun h_25 => ?_) (fun h_25 => ?_)
          ·
            have hG := hG.trans (if_neg h_25)
            refine lv_iconst (v := 1) hx hb d_MD_groundReport_81 (by decide) ?_
            refine lv_goto (tgt := 86) hx hb d_MD_groundReport_82 (by decide) ?_
            refine pg_MD (k := 33) hx hb hts hown hK hi hP hS  (hts _ (List.mem_cons_of_mem _ tw_814)) (by decide) rfl rfl (rfl) (rfl) (Nat.le_of_ble_eq_true rfl) rfl d_MD_groundReport_86 (fun H locs hP hS => ?_)
            refine lv_aload_n hx hb d_MD_groundReport_89 rfl (lv_at hl 3 rfl) ?_
            refine lv_iload hx hb d_MD_groundReport_90 (lv_at hl 1 rfl) ?_
            refine lv_if_eq (tgt := 99) hx hb d_MD_groundReport_92 (by decide) (fun h_26 => absurd h_26 (by decide)) (fun _ => ?_)
            refine lv_iconst (v := 1) hx hb d_MD_groundReport_95 (by decide) ?_
            refine lv_goto (tgt := 100) hx hb d_MD_groundReport_96 (by decide) ?_
            refine pg_MD (k := 28) hx hb hts hown hK hi hP hS  (hts _ (List.mem_cons_of_mem _ tw_809)) (by decide) rfl rfl rfl rfl (Nat.le_of_ble_eq_true rfl) rfl d_MD_groundReport_100 (fun H locs hP hS => ?_)
            refine lv_goto (tgt := 147) hx hb d_MD_groundReport_103 (by decide) ?_
            exact fl_vret hx hb hr hlocks hP hS (by rw [hG]) d_MD_groundReport_147
          ·
            have hG := hG.trans (if_pos h_25)
            refine lv_iload hx hb d_MD_groundReport_76 (lv_at hl 1 rfl) ?_
            refine lv_if_ne (tgt := 85) hx hb d_MD_groundReport_78 (by decide) (fun _ => ?_) (fun h_27 => absurd h_27 (by decide))
            refine lv_iconst (v := 0) hx hb d_MD_groundReport_85 (by decide) ?_
            refine pg_MD (k := 33) hx hb hts hown hK hi hP hS  (hts _ (List.mem_cons_of_mem _ tw_814)) (by decide) rfl rfl (rfl) (rfl) (Nat.le_of_ble_eq_true rfl) rfl d_MD_groundReport_86 (fun H locs hP hS => ?_)
            refine lv_aload_n hx hb d_MD_groundReport_89 rfl (lv_at hl 3 rfl) ?_
            refine lv_iload hx hb d_MD_groundReport_90 (lv_at hl 1 rfl) ?_
            refine lv_if_eq (tgt := 99) hx hb d_MD_groundReport_92 (by decide) (fun h_28 => absurd h_28 (by decide)) (fun _ => ?_)
            refine lv_iconst (v := 1) hx hb d_MD_groundReport_95 (by decide) ?_
            refine lv_goto (tgt := 100) hx hb d_MD_groundReport_96 (by decide) ?_
            refine pg_MD (k := 28) hx hb hts hown hK hi hP hS  (hts _ (List.mem_cons_of_mem _ tw_809)) (by decide) rfl rfl rfl rfl (Nat.le_of_ble_eq_true rfl) rfl d_MD_groundReport_100 (fun H locs hP hS => ?_)
            refine lv_goto (tgt := 147) hx hb d_MD_groundReport_103 (by decide) ?_
            exact fl_vret hx hb hr hlocks hP hS (by rw [hG]) d_MD_groundReport_147
      ·
        have hG := hG.trans (if_pos h_22)
        refine lv_aload_n hx hb d_MD_groundReport_48 rfl (lv_at hl 3 rfl) ?_
        refine lv_iload_n hx hb d_MD_groundReport_49 rfl (lv_at hl 2 rfl) ?_
        refine lv_iload hx hb d_MD_groundReport_50 (lv_at hl 1 rfl) ?_
        refine lv_iload hx hb d_MD_groundReport_52 (lv_at hl 0 rfl) ?_
        refine fl_callv (va_runV (As := [.int ((x1 &&& 15).toInt32), .int 1, .int 0]) (rest := []) ⟨hx, hb, hml, hown, hts⟩ (c_MD_activeReport l hi M ((x1 &&& 15).toInt32) 1 0 (by assumption) (by assumption)) (kv_MD_activeReport hts (hts _ (List.mem_cons_of_mem _ tw_1084)) ⟨Nat.le_of_ble_eq_true rfl, Nat.le_of_ble_eq_true rfl⟩) (fl_preV hK hSt hN hS hP (by decide) (kg_MD) rfl) rfl rfl hl.1 rfl (lv_room (Nat.le_of_ble_eq_true rfl)) d_MD_groundReport_54 ⟨Nat.zero_le _, Nat.zero_le _⟩) hS (fun H locs hP hS => ?_)
        refine lv_goto (tgt := 147) hx hb d_MD_groundReport_57 (by decide) ?_
        exact fl_vret hx hb hr hlocks hP hS (by rw [hG]) d_MD_groundReport_147
    ·
      have hG := hG.trans (if_neg h_21)
      refine lv_iconst (v := 1) hx hb d_MD_groundReport_34 (by decide) ?_
      refine lv_goto (tgt := 39) hx hb d_MD_groundReport_35 (by decide) ?_
      refine lv_istore (lv' := [(5, .int 1), (4, .int 1), (3, .int ((x1 &&& 15).toInt32)), (0, .ref (ad 0)), (1, .long x1)]) hx hb d_MD_groundReport_39 hl (by decide) rfl (fun ls hl => ?_)
      refine lv_aload_n hx hb d_MD_groundReport_41 rfl (lv_at hl 3 rfl) ?_
      refine gg_MD (k := 28) (v := .int (M.1 0 28)) hx hb hts hown hK hP  (hts _ (List.mem_cons_of_mem _ tw_809)) (by decide) rfl rfl d_MD_groundReport_42 ?_
      refine lv_if_ne (tgt := 60) hx hb d_MD_groundReport_45 (by decide) (fun h_29 => ?_) (fun h_29 => ?_)
      ·
        have hG := hG.trans (if_neg h_29)
        refine lv_aload_n hx hb d_MD_groundReport_60 rfl (lv_at hl 3 rfl) ?_
        refine gg_MD (k := 28) (v := .int (M.1 0 28)) hx hb hts hown hK hP  (hts _ (List.mem_cons_of_mem _ tw_809)) (by decide) rfl rfl d_MD_groundReport_61 ?_
        refine lv_iconst (v := 1) hx hb d_MD_groundReport_64 (by decide) ?_
        refine lv_icmp_ne (tgt := 106) hx hb d_MD_groundReport_65 (by decide) (fun h_30 => ?_) (fun h_30 => ?_)
        ·
          have hG := hG.trans (if_neg h_30)
          refine lv_iload hx hb d_MD_groundReport_106 (lv_at hl 1 rfl) ?_
          refine lv_if_eq (tgt := 124) hx hb d_MD_groundReport_108 (by decide) (fun h_31 => absurd h_31 (by decide)) (fun _ => ?_)
          refine lv_aload_n hx hb d_MD_groundReport_111 rfl (lv_at hl 3 rfl) ?_
          refine lv_iconst (v := 1) hx hb d_MD_groundReport_112 (by decide) ?_
          refine pg_MD (k := 28) hx hb hts hown hK hi hP hS  (hts _ (List.mem_cons_of_mem _ tw_809)) (by decide) rfl rfl rfl rfl (Nat.le_of_ble_eq_true rfl) rfl d_MD_groundReport_113 (fun H locs hP hS => ?_)
          refine lv_aload_n hx hb d_MD_groundReport_116 rfl (lv_at hl 3 rfl) ?_
          refine lv_iconst (v := 1) hx hb d_MD_groundReport_117 (by decide) ?_
          refine pg_MD (k := 33) hx hb hts hown hK hi hP hS  (hts _ (List.mem_cons_of_mem _ tw_814)) (by decide) rfl rfl (rfl) (rfl) (Nat.le_of_ble_eq_true rfl) rfl d_MD_groundReport_118 (fun H locs hP hS => ?_)
          refine lv_goto (tgt := 147) hx hb d_MD_groundReport_121 (by decide) ?_
          exact fl_vret hx hb hr hlocks hP hS (by rw [hG]) d_MD_groundReport_147
        ·
          have hG := hG.trans (if_pos h_30)
          refine lv_aload_n hx hb d_MD_groundReport_68 rfl (lv_at hl 3 rfl) ?_
          refine lv_aload_n hx hb d_MD_groundReport_69 rfl (lv_at hl 3 rfl) ?_
          refine gg_MD (k := 33) (v := .int (M.1 0 33)) hx hb hts hown hK hP  (hts _ (List.mem_cons_of_mem _ tw_814)) (by decide) rfl rfl d_MD_groundReport_70 ?_
          refine lv_if_ne (tgt := 81) hx hb d_MD_groundReport_73 (by decide) (fun h_32 => ?_) (fun h_32 => ?_)
          ·
            have hG := hG.trans (if_neg h_32)
            refine lv_iconst (v := 1) hx hb d_MD_groundReport_81 (by decide) ?_
            refine lv_goto (tgt := 86) hx hb d_MD_groundReport_82 (by decide) ?_
            refine pg_MD (k := 33) hx hb hts hown hK hi hP hS  (hts _ (List.mem_cons_of_mem _ tw_814)) (by decide) rfl rfl (rfl) (rfl) (Nat.le_of_ble_eq_true rfl) rfl d_MD_groundReport_86 (fun H locs hP hS => ?_)
            refine lv_aload_n hx hb d_MD_groundReport_89 rfl (lv_at hl 3 rfl) ?_
            refine lv_iload hx hb d_MD_groundReport_90 (lv_at hl 1 rfl) ?_
            refine lv_if_eq (tgt := 99) hx hb d_MD_groundReport_92 (by decide) (fun h_33 => absurd h_33 (by decide)) (fun _ => ?_)
            refine lv_iconst (v := 1) hx hb d_MD_groundReport_95 (by decide) ?_
            refine lv_goto (tgt := 100) hx hb d_MD_groundReport_96 (by decide) ?_
            refine pg_MD (k := 28) hx hb hts hown hK hi hP hS  (hts _ (List.mem_cons_of_mem _ tw_809)) (by decide) rfl rfl rfl rfl (Nat.le_of_ble_eq_true rfl) rfl d_MD_groundReport_100 (fun H locs hP hS => ?_)
            refine lv_goto (tgt := 147) hx hb d_MD_groundReport_103 (by decide) ?_
            exact fl_vret hx hb hr hlocks hP hS (by rw [hG]) d_MD_groundReport_147
          ·
            have hG := hG.trans (if_pos h_32)
            refine lv_iload hx hb d_MD_groundReport_76 (lv_at hl 1 rfl) ?_
            refine lv_if_ne (tgt := 85) hx hb d_MD_groundReport_78 (by decide) (fun _ => ?_) (fun h_34 => absurd h_34 (by decide))
            refine lv_iconst (v := 0) hx hb d_MD_groundReport_85 (by decide) ?_
            refine pg_MD (k := 33) hx hb hts hown hK hi hP hS  (hts _ (List.mem_cons_of_mem _ tw_814)) (by decide) rfl rfl (rfl) (rfl) (Nat.le_of_ble_eq_true rfl) rfl d_MD_groundReport_86 (fun H locs hP hS => ?_)
            refine lv_aload_n hx hb d_MD_groundReport_89 rfl (lv_at hl 3 rfl) ?_
            refine lv_iload hx hb d_MD_groundReport_90 (lv_at hl 1 rfl) ?_
            refine lv_if_eq (tgt := 99) hx hb d_MD_groundReport_92 (by decide) (fun h_35 => absurd h_35 (by decide)) (fun _ => ?_)
            refine lv_iconst (v := 1) hx hb d_MD_groundReport_95 (by decide) ?_
            refine lv_goto (tgt := 100) hx hb d_MD_groundReport_96 (by decide) ?_
            refine pg_MD (k := 28) hx hb hts hown hK hi hP hS  (hts _ (List.mem_cons_of_mem _ tw_809)) (by decide) rfl rfl rfl rfl (Nat.le_of_ble_eq_true rfl) rfl d_MD_groundReport_100 (fun H locs hP hS => ?_)
            refine lv_goto (tgt := 147) hx hb d_MD_groundReport_103 (by decide) ?_
            exact fl_vret hx hb hr hlocks hP hS (by rw [hG]) d_MD_groundReport_147
      ·
        have hG := hG.trans (if_pos h_29)
        refine lv_aload_n hx hb d_MD_groundReport_48 rfl (lv_at hl 3 rfl) ?_
        refine lv_iload_n hx hb d_MD_groundReport_49 rfl (lv_at hl 2 rfl) ?_
        refine lv_iload hx hb d_MD_groundReport_50 (lv_at hl 1 rfl) ?_
        refine lv_iload hx hb d_MD_groundReport_52 (lv_at hl 0 rfl) ?_
        refine fl_callv (va_runV (As := [.int ((x1 &&& 15).toInt32), .int 1, .int 1]) (rest := []) ⟨hx, hb, hml, hown, hts⟩ (c_MD_activeReport l hi M ((x1 &&& 15).toInt32) 1 1 (by assumption) (by assumption)) (kv_MD_activeReport hts (hts _ (List.mem_cons_of_mem _ tw_1084)) ⟨Nat.le_of_ble_eq_true rfl, Nat.le_of_ble_eq_true rfl⟩) (fl_preV hK hSt hN hS hP (by decide) (kg_MD) rfl) rfl rfl hl.1 rfl (lv_room (Nat.le_of_ble_eq_true rfl)) d_MD_groundReport_54 ⟨Nat.zero_le _, Nat.zero_le _⟩) hS (fun H locs hP hS => ?_)
        refine lv_goto (tgt := 147) hx hb d_MD_groundReport_57 (by decide) ?_
        exact fl_vret hx hb hr hlocks hP hS (by rw [hG]) d_MD_groundReport_147
theorem hd_MD_groundReport : y_MD_groundReport.cls ≠ "java/lang/invoke/MethodHandle" ∧ y_MD_groundReport.cls ≠ "java/lang/invoke/VarHandle" ∧ (parseMethodDescriptor y_MD_groundReport.desc).map (fun d => d.parameters.length) = some 1 := by decide +kernel
theorem kv_MD_groundReport {R : Room} {s : State} {args : Array Value} {c0 : Cond} {own : String} {index : Nat} (hts : ∀ w ∈ c0 :: gw, w.before args s = true) (hl : (Cond.methodLink own index y_MD_groundReport).before args s = true) (hR : 2 + 1 ≤ R.frames ∧ 8 + (6 + 11) + 45 ≤ R.locals) : CallW R s args own "FarLinkModel" index y_MD_groundReport b_MD_groundReport 6 none w_MD_groundReport ({ frames := 2, cells := 0, slots := 0, locals := 45 } : Room) 0 0 1 := ⟨callB_of 1 hts (gw_in tw_1083) rfl rfl rfl (hts _ (List.mem_cons_of_mem _ tw_10)) hl hd_MD_groundReport hR, hts _ (List.mem_cons_of_mem _ tw_1082), hts _ (List.mem_cons_of_mem _ ps_MD_groundReport)⟩
