/-! contracts of the reference: 40.yrun -/
def YTK (M : fl_M) : Prop := (nn ((yk_d M).1 0 13)) ∧ (((yk_d M).1 0 13).toNatClampNeg ≤ 16) ∧ (YI (yk_a M)) ∧ (∀ (N : fl_M) (c j : Nat) (v : Int32), c ≠ 27 → c ≠ 30 → c ≠ 31 → YI N → YI (fl_i N c j v)) ∧ (∀ (N : fl_M) (t k p w : Int32), vp_in t 16 → ¬ p < 0 → YI N → YI (g_MD_takes N t k p w).2) ∧ (nn ((yk_c M).1 0 30)) ∧ (((yk_c M).1 0 30).toNatClampNeg ≤ 16) ∧ (nn ((yj_b M).1 0 30)) ∧ (((yj_b M).1 0 30).toNatClampNeg ≤ 16) ∧ (nn ((g_MD_tick_L79  (((yk_d M).1 0 13).toNatClampNeg) 0 (yk_d M)).1 0 30)) ∧ (((g_MD_tick_L79  (((yk_d M).1 0 13).toNatClampNeg) 0 (yk_d M)).1 0 30).toNatClampNeg ≤ 16) ∧ (nn ((g_MD_tick_L79  (((yk_d M).1 0 13).toNatClampNeg) 0 (yk_d M)).1 0 13)) ∧ (((g_MD_tick_L79  (((yk_d M).1 0 13).toNatClampNeg) 0 (yk_d M)).1 0 13).toNatClampNeg ≤ 16) ∧ (vp_in ((g_MD_tick_L79  (((yk_d M).1 0 13).toNatClampNeg) 0 (yk_d M)).1 0 29) 16) ∧ (∀ x : Int32, vp_in x 16 → nn ((g_MD_tick_L79  (((yk_d M).1 0 13).toNatClampNeg) 0 (yk_d M)).1 10 x.toNatClampNeg) ∧ ((g_MD_tick_L79  (((yk_d M).1 0 13).toNatClampNeg) 0 (yk_d M)).1 10 x.toNatClampNeg).toNatClampNeg ≤ 16)
def g_MD_run_L18  : Nat → Nat → fl_M → fl_M
  | 0, i_18, M1 => (M1)
  | k_18 + 1, i_18, M1 => g_MD_run_L18  k_18 (i_18 + 1) (g_MD_tick M1)
def g_MD_run (M : fl_M) (x1 : Int32) : Int32 × fl_M :=
  if (g_MD_outside x1 100) = 0 then (((g_MD_run_L18  x1.toNatClampNeg 0 (fl_i M 0 4 0)).1 0 4, (g_MD_run_L18  x1.toNatClampNeg 0 (fl_i M 0 4 0)))) else (((-1), M))
set_option maxHeartbeats 400000 in
set_option maxRecDepth 100000 in
theorem c_MD_run (l : Launch) {D : va_G} {ad : Nat → Nat} {cA : Nat → ClassId} (hi : fl_inj ad 41) {XI : fl_M → Prop} (M : fl_M) (x1 : Int32) (hX : XI (fl_i M 0 4 0)) (hT : ∀ N, XI N → YTK N ∧ XI (g_MD_tick N)) : Met l y_MD_run w_MD_run ({ frames := 8, cells := 0, slots := 0, locals := 195 } : Room) (va_Pc [.ref (ad 0), .int x1] (fl_B D cls (yt cA) ([] : fl_L) ([] : fl_FN) ([] : fl_MN) ad (yc ad cA) 41 M)) (va_Qi (fun r M' => r = (g_MD_run M x1).1 ∧ M' = ((g_MD_run M x1).2)) (fl_E D cls ad (yc ad cA) 41) (fl_A ad 41)) 0 0 (fl_A ad 41) := by
  refine Met.ofW (cc := b_MD_run) (maxL := 3) (ret := (some .int)) (by decide) rfl ?_
  intro p e s m args below meth c s₁ B hml hv
  obtain ⟨rfl, hP, hK, hSt, hN⟩ := hv
  have hx := B.exec
  have hb := B.bytes
  have hr := B.returns
  have hts := atoms_spec (ws := w_MD_run) B.pre
  have hown : s.vm.findClass "FarLinkModel" = some m.cls := findClass_of_methodNamed B.named
  have hlocks := B.notSynchronized
  have hS : va_S (fl_A ad 41) s.heap s.heap [] := va_S.rf
  have hl := lv_entry ([.ref (ad 0), .int x1]) (n := 3) (Nat.le_of_ble_eq_true rfl)
  rw [lg_entry_eq]
  generalize (lg_sl ([.ref (ad 0), .int x1]) ++ List.replicate (3 - (lg_sl ([.ref (ad 0), .int x1])).length) Slot.unset).toArray = ls at hl ⊢
  have hl : lv_has ls 3 [(0, .ref (ad 0)), (1, .int x1)] := hl
  have hG := g_MD_run.eq_1 M x1
  refine lv_iload_n hx hb d_MD_run_0 rfl (lv_at hl 1 rfl) ?_
  refine lv_bipush (v := 100) hx hb d_MD_run_1 (by decide) ?_
  refine fl_calli (va_runS (As := [.int x1, .int 100]) (rest := []) ⟨hx, hb, hml, hown, hts⟩ (c_MD_outside l hi M x1 100) (kv_MD_outside hts (hts _ (List.mem_cons_of_mem _ tw_990)) ⟨Nat.le_of_ble_eq_true rfl, Nat.le_of_ble_eq_true rfl⟩) (fl_preS hK hSt hN hS hP) rfl rfl hl.1 rfl (lv_room (Nat.le_of_ble_eq_true rfl)) d_MD_run_3 ⟨Nat.zero_le _, Nat.zero_le _⟩) hS (fun H locs hP hS => ?_)
  refine lv_if_eq (tgt := 11) hx hb d_MD_run_6 (by decide) (fun h_1 => ?_) (fun h_1 => ?_)
  ·
    have hG := hG.trans (if_pos h_1)
    refine lv_aload_n hx hb d_MD_run_11 rfl (lv_at hl 0 rfl) ?_
    refine lv_iconst (v := 0) hx hb d_MD_run_12 (by decide) ?_
    refine pg_MD (k := 4) hx hb hts hown hK hi hP hS  (hts _ (List.mem_cons_of_mem _ tw_785)) (by decide) rfl rfl rfl rfl (Nat.le_of_ble_eq_true rfl) rfl d_MD_run_13 (fun H locs hP hS => ?_)
    refine lv_iconst (v := 0) hx hb d_MD_run_16 (by decide) ?_
    refine lv_istore_n (lv' := [(2, .int 0), (0, .ref (ad 0)), (1, .int x1)]) hx hb d_MD_run_17 rfl hl (by decide) rfl (fun ls hl => ?_)
    have hnx := nn_out (x := x1) (b := 100) (by assumption)
    have hBx := tn_lt x1
    have lp_18 : ∀ (k_18 : Nat) (i_18 : Nat) (M1 : fl_M) (ls : Array Slot) (H : Heap) (locs : List Loc), i_18 + k_18 = x1.toNatClampNeg → XI M1 → lv_has ls 3 [(0, .ref (ad 0)), (1, .int x1), (2, .int (nI i_18))] → va_P D cls (fl_w ad (yc ad cA) 41 M1) H → va_S (fl_A ad 41) s.heap H locs → (∀ (v : fl_M) (ls : Array Slot) (H : Heap) (locs : List Loc), v = g_MD_run_L18  k_18 i_18 M1 → lv_has ls 3 [(0, .ref (ad 0)), (1, .int x1)] → va_P D cls (fl_w ad (yc ad cA) 41 v) H → va_S (fl_A ad 41) s.heap H locs → W p l e (headSpec w_MD_run ({ frames := 8, cells := 0, slots := 0, locals := 195 } : Room)).room s m ([.ref (ad 0), .int x1] : List Value).toArray below meth c H locs 0 0 (MQ below (va_Qi (fun r M' => r = (g_MD_run M x1).1 ∧ M' = ((g_MD_run M x1).2)) (fl_E D cls ad (yc ad cA) 41) (fl_A ad 41)) ([.ref (ad 0), .int x1] : List Value).toArray s 0 0 (fl_A ad 41)) (F0 m 33 ls [])) → W p l e (headSpec w_MD_run ({ frames := 8, cells := 0, slots := 0, locals := 195 } : Room)).room s m ([.ref (ad 0), .int x1] : List Value).toArray below meth c H locs 0 0 (MQ below (va_Qi (fun r M' => r = (g_MD_run M x1).1 ∧ M' = ((g_MD_run M x1).2)) (fl_E D cls ad (yc ad cA) 41) (fl_A ad 41)) ([.ref (ad 0), .int x1] : List Value).toArray s 0 0 (fl_A ad 41)) (F0 m 18 ls []) := by
      intro k_18
      induction k_18 with
      | zero =>
        intro i_18 M1 ls H locs hbd hI hl hP hS kk
        have hG : g_MD_run_L18  0 i_18 M1 = _ := g_MD_run_L18.eq_1 ..
        refine lv_iload_n hx hb d_MD_run_18 rfl (lv_at hl 2 rfl) ?_
        refine lv_iload_n hx hb d_MD_run_19 rfl (lv_at hl 1 rfl) ?_
        refine lv_icmp_ge (tgt := 33) hx hb d_MD_run_20 (by decide) (fun _ => ?_) (fun h_2 => absurd (fl_le (b := x1.toNatClampNeg) hnx (by omega) (by omega)) h_2)
        have hl := lv_sub (l' := [(0, .ref (ad 0)), (1, .int x1)]) hl [0, 1] rfl
        exact kk (M1) ls _ _ hG.symm hl hP hS
      | succ k_18 ih_18 =>
        intro i_18 M1 ls H locs hbd hI hl hP hS kk
        have hG : g_MD_run_L18  (k_18 + 1) i_18 M1 = _ := g_MD_run_L18.eq_2 ..
        refine lv_iload_n hx hb d_MD_run_18 rfl (lv_at hl 2 rfl) ?_
        refine lv_iload_n hx hb d_MD_run_19 rfl (lv_at hl 1 rfl) ?_
        refine lv_icmp_ge (tgt := 33) hx hb d_MD_run_20 (by decide) (fun h_3 => absurd h_3 (fl_nle (b := x1.toNatClampNeg) hnx (by omega) (by omega))) (fun _ => ?_)
        refine lv_aload_n hx hb d_MD_run_23 rfl (lv_at hl 0 rfl) ?_
        refine fl_callv (va_runV (As := []) (rest := []) ⟨hx, hb, hml, hown, hts⟩ (c_MD_tick l hi M1 ((hT _ hI).1.1) ((hT _ hI).1.2.1) ((hT _ hI).1.2.2.1) ((hT _ hI).1.2.2.2.1) ((hT _ hI).1.2.2.2.2.1) ((hT _ hI).1.2.2.2.2.2.1) ((hT _ hI).1.2.2.2.2.2.2.1) ((hT _ hI).1.2.2.2.2.2.2.2.1) ((hT _ hI).1.2.2.2.2.2.2.2.2.1) ((hT _ hI).1.2.2.2.2.2.2.2.2.2.1) ((hT _ hI).1.2.2.2.2.2.2.2.2.2.2.1) ((hT _ hI).1.2.2.2.2.2.2.2.2.2.2.2.1) ((hT _ hI).1.2.2.2.2.2.2.2.2.2.2.2.2.1) ((hT _ hI).1.2.2.2.2.2.2.2.2.2.2.2.2.2.1) ((hT _ hI).1.2.2.2.2.2.2.2.2.2.2.2.2.2.2)) (kv_MD_tick hts (hts _ (List.mem_cons_of_mem _ tw_1027)) ⟨Nat.le_of_ble_eq_true rfl, Nat.le_of_ble_eq_true rfl⟩) (fl_preV hK hSt hN hS hP (by decide) (kg_MD) rfl) rfl rfl hl.1 rfl (lv_room (Nat.le_of_ble_eq_true rfl)) d_MD_run_24 ⟨Nat.zero_le _, Nat.zero_le _⟩) hS (fun H locs hP hS => ?_)
        refine lv_iinc (k := 2) (v := nI (i_18 + 1)) (lv' := [(2, .int (nI (i_18 + 1))), (0, .ref (ad 0)), (1, .int x1)]) hx hb d_MD_run_27 hl rfl (fl_inc _) (by decide) rfl (fun ls hl => ?_)
        refine lv_goto (tgt := 18) hx hb d_MD_run_30 (by decide) ?_
        have hl := lv_sub (l' := [(0, .ref (ad 0)), (1, .int x1), (2, .int (nI (i_18 + 1)))]) hl [1, 2, 0] rfl
        exact ih_18 (i_18 + 1) (g_MD_tick M1) ls _ _ (by omega) ((hT _ hI).2) hl hP hS (fun v ls H locs hv => kk v ls H locs (hv.trans hG.symm))
    have hl := lv_sub (l' := [(0, .ref (ad 0)), (1, .int x1), (2, .int (nI 0))]) hl [1, 2, 0] rfl
    refine lp_18 x1.toNatClampNeg 0 (fl_i M 0 4 0) ls _ _ (by omega) (hX) hl hP hS (fun v ls H locs hv hl hP hS => ?_)
    subst hv
    refine lv_aload_n hx hb d_MD_run_33 rfl (lv_at hl 0 rfl) ?_
    refine gg_MD (k := 4) (v := .int ((g_MD_run_L18  x1.toNatClampNeg 0 (fl_i M 0 4 0)).1 0 4)) hx hb hts hown hK hP  (hts _ (List.mem_cons_of_mem _ tw_785)) (by decide) rfl rfl d_MD_run_34 ?_
    exact fl_iret hx hb hr hlocks hP hS (congrArg Prod.fst hG).symm (by rw [hG]) d_MD_run_37
  ·
    have hG := hG.trans (if_neg h_1)
    refine lv_iconst (v := -1) hx hb d_MD_run_9 (by decide) ?_
    exact fl_iret hx hb hr hlocks hP hS (congrArg Prod.fst hG).symm (by rw [hG]) d_MD_run_10
theorem hd_MD_run : y_MD_run.cls ≠ "java/lang/invoke/MethodHandle" ∧ y_MD_run.cls ≠ "java/lang/invoke/VarHandle" ∧ (parseMethodDescriptor y_MD_run.desc).map (fun d => d.parameters.length) = some 1 := by decide +kernel
theorem kv_MD_run {R : Room} {s : State} {args : Array Value} {c0 : Cond} {own : String} {index : Nat} (hts : ∀ w ∈ c0 :: gw, w.before args s = true) (hl : (Cond.methodLink own index y_MD_run).before args s = true) (hR : 8 + 1 ≤ R.frames ∧ 8 + (3 + 11) + 195 ≤ R.locals) : CallW R s args own "FarLinkModel" index y_MD_run b_MD_run 3 (some .int) w_MD_run ({ frames := 8, cells := 0, slots := 0, locals := 195 } : Room) 0 0 1 := ⟨callB_of 1 hts (gw_in tw_1026) rfl rfl rfl (hts _ (List.mem_cons_of_mem _ tw_10)) hl hd_MD_run hR, hts _ (List.mem_cons_of_mem _ tw_1024), hts _ (List.mem_cons_of_mem _ tw_1025)⟩
