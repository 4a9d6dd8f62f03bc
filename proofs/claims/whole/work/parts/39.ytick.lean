/-! contracts of the reference: 39.ytick -/
theorem gc_cnt (M : fl_M) (x : Int32) : (g_MD_groundClocks M x).1 0 13 = M.1 0 13 := by
  unfold g_MD_groundClocks g_MD_end g_MD_makeEndDue
  repeat (first | rfl | split)
def yk_a (M : fl_M) : fl_M := (g_MD_hear (fl_i M 0 3 ((M.1 0 3) + 1)) 0).2
def yk_av (M : fl_M) : Int64 := (g_MD_hear (fl_i M 0 3 ((M.1 0 3) + 1)) 0).1
def yj_a (M : fl_M) : fl_M := if (lg_cmp (yk_av M) 0) < 0 then ((yk_a M)) else ((g_MD_craftFrame (yk_a M) (yk_av M)))
def g_MD_tick_L29  : Nat → Nat → fl_M → fl_M
  | 0, i_29, M1 => (M1)
  | k_29 + 1, i_29, M1 => g_MD_tick_L29  k_29 (i_29 + 1) (g_MD_craftClocks M1 (nI i_29))
def yk_b (M : fl_M) : fl_M := (g_MD_craftSends (g_MD_tick_L29  16 0 (yj_a M)))
def yk_c (M : fl_M) : fl_M := (g_MD_hear (yk_b M) 1).2
def yk_cv (M : fl_M) : Int64 := (g_MD_hear (yk_b M) 1).1
def yj_b (M : fl_M) : fl_M := if (lg_cmp (yk_cv M) 0) < 0 then ((yk_c M)) else ((g_MD_groundPdu (g_MD_groundReport (yk_c M) (yk_cv M)) (yk_cv M)))
def yk_d (M : fl_M) : fl_M := (g_MD_frameClocks (yj_b M))
def g_MD_tick_L79  : Nat → Nat → fl_M → fl_M
  | 0, i_79, M1 => (M1)
  | k_79 + 1, i_79, M1 => g_MD_tick_L79  k_79 (i_79 + 1) (g_MD_groundClocks M1 (nI i_79))
def g_MD_tick (M : fl_M) : fl_M :=
  (g_MD_groundSends (g_MD_tick_L79  (((yk_d M).1 0 13).toNatClampNeg) 0 (yk_d M)))
set_option maxHeartbeats 400000 in
set_option maxRecDepth 100000 in
theorem c_MD_tick (l : Launch) {D : va_G} {ad : Nat → Nat} {cA : Nat → ClassId} (hi : fl_inj ad 41) (M : fl_M) (hC1 : nn ((yk_d M).1 0 13)) (hC2 : ((yk_d M).1 0 13).toNatClampNeg ≤ 16) (hT2 : YI (yk_a M)) (hT3 : ∀ (N : fl_M) (c j : Nat) (v : Int32), c ≠ 27 → c ≠ 30 → c ≠ 31 → YI N → YI (fl_i N c j v)) (hT4 : ∀ (N : fl_M) (t k p w : Int32), vp_in t 16 → ¬ p < 0 → YI N → YI (g_MD_takes N t k p w).2) (hT5 : nn ((yk_c M).1 0 30)) (hT6 : ((yk_c M).1 0 30).toNatClampNeg ≤ 16) (hT7 : nn ((yj_b M).1 0 30)) (hT8 : ((yj_b M).1 0 30).toNatClampNeg ≤ 16) (hT9 : nn ((g_MD_tick_L79  (((yk_d M).1 0 13).toNatClampNeg) 0 (yk_d M)).1 0 30)) (hT10 : ((g_MD_tick_L79  (((yk_d M).1 0 13).toNatClampNeg) 0 (yk_d M)).1 0 30).toNatClampNeg ≤ 16) (hT11 : nn ((g_MD_tick_L79  (((yk_d M).1 0 13).toNatClampNeg) 0 (yk_d M)).1 0 13)) (hT12 : ((g_MD_tick_L79  (((yk_d M).1 0 13).toNatClampNeg) 0 (yk_d M)).1 0 13).toNatClampNeg ≤ 16) (hT13 : vp_in ((g_MD_tick_L79  (((yk_d M).1 0 13).toNatClampNeg) 0 (yk_d M)).1 0 29) 16) (hT14 : ∀ x : Int32, vp_in x 16 → nn ((g_MD_tick_L79  (((yk_d M).1 0 13).toNatClampNeg) 0 (yk_d M)).1 10 x.toNatClampNeg) ∧ ((g_MD_tick_L79  (((yk_d M).1 0 13).toNatClampNeg) 0 (yk_d M)).1 10 x.toNatClampNeg).toNatClampNeg ≤ 16) : Met l y_MD_tick w_MD_tick ({ frames := 7, cells := 0, slots := 0, locals := 170 } : Room) (va_Pc [.ref (ad 0)] (fl_B D cls (yt cA) ([] : fl_L) ([] : fl_FN) ([] : fl_MN) ad (yc ad cA) 41 M)) (va_Qv (fun M' => M' = (g_MD_tick M)) (fl_E D cls ad (yc ad cA) 41) (fl_A ad 41)) 0 0 (fl_A ad 41) := by
  refine Met.ofW (cc := b_MD_tick) (maxL := 6) (ret := none) (by decide) rfl ?_
  intro p e s m args below meth c s₁ B hml hv
  obtain ⟨rfl, hP, hK, hSt, hN⟩ := hv
  have hx := B.exec
  have hb := B.bytes
  have hr := B.returns
  have hts := atoms_spec (ws := w_MD_tick) B.pre
  have hown : s.vm.findClass "FarLinkModel" = some m.cls := findClass_of_methodNamed B.named
  have hlocks := B.notSynchronized
  have hS : va_S (fl_A ad 41) s.heap s.heap [] := va_S.rf
  have hl := lv_entry ([.ref (ad 0)]) (n := 6) (Nat.le_of_ble_eq_true rfl)
  rw [lg_entry_eq]
  generalize (lg_sl ([.ref (ad 0)]) ++ List.replicate (6 - (lg_sl ([.ref (ad 0)])).length) Slot.unset).toArray = ls at hl ⊢
  have hl : lv_has ls 6 [(0, .ref (ad 0))] := hl
  have hG := g_MD_tick.eq_1 M
  refine lv_aload_n hx hb d_MD_tick_0 rfl (lv_at hl 0 rfl) ?_
  refine lv_dup hx hb d_MD_tick_1 rfl ?_
  refine gg_MD (k := 3) (v := .int (M.1 0 3)) hx hb hts hown hK hP  (hts _ (List.mem_cons_of_mem _ tw_784)) (by decide) rfl rfl d_MD_tick_2 ?_
  refine lv_iconst (v := 1) hx hb d_MD_tick_5 (by decide) ?_
  refine lv_iadd hx hb d_MD_tick_6 ?_
  refine pg_MD (k := 3) hx hb hts hown hK hi hP hS  (hts _ (List.mem_cons_of_mem _ tw_784)) (by decide) rfl rfl rfl rfl (Nat.le_of_ble_eq_true rfl) rfl d_MD_tick_7 (fun H locs hP hS => ?_)
  refine lv_aload_n hx hb d_MD_tick_10 rfl (lv_at hl 0 rfl) ?_
  refine lv_iconst (v := 0) hx hb d_MD_tick_11 (by decide) ?_
  refine fl_calll (va_runV (As := [.int 0]) (rest := []) ⟨hx, hb, hml, hown, hts⟩ (c_MD_hear l hi (fl_i M 0 3 ((M.1 0 3) + 1)) 0 (vp_in_nI (n := 0) (by decide) (by decide))) (kv_MD_hear hts (hts _ (List.mem_cons_of_mem _ tw_1031)) ⟨Nat.le_of_ble_eq_true rfl, Nat.le_of_ble_eq_true rfl⟩) (fl_preV hK hSt hN hS hP (by decide) (kg_MD) rfl) rfl rfl hl.1 rfl (lv_room (Nat.le_of_ble_eq_true rfl)) d_MD_tick_12 ⟨Nat.zero_le _, Nat.zero_le _⟩) hS (fun H locs hP hS => ?_)
  have hP : va_P D cls (fl_w ad (yc ad cA) 41 (yk_a M)) H := hP
  refine W.eq (g2 := F0 m 15 ls [.long (yk_av M)]) rfl ?_
  refine lv_lstore_n (lv' := [(1, .long (yk_av M)), (0, .ref (ad 0))]) hx hb d_MD_tick_15 rfl hl (by decide) rfl (fun ls hl => ?_)
  refine lv_lload_n hx hb d_MD_tick_16 rfl (lv_at hl 0 rfl) ?_
  refine lv_lconst (v := 0) hx hb d_MD_tick_17 (by decide) ?_
  refine W.lcmp hx hb d_MD_tick_18 ?_
  have jn_27 : ∀ (N : fl_M) (ls : Array Slot) (H : Heap) (locs : List Loc), N = yj_a M → lv_has ls 6 [(0, .ref (ad 0))] → va_P D cls (fl_w ad (yc ad cA) 41 N) H → va_S (fl_A ad 41) s.heap H locs → W p l e (headSpec w_MD_tick ({ frames := 7, cells := 0, slots := 0, locals := 170 } : Room)).room s m ([.ref (ad 0)] : List Value).toArray below meth c H locs 0 0 (MQ below (va_Qv (fun M' => M' = (g_MD_tick M)) (fl_E D cls ad (yc ad cA) 41) (fl_A ad 41)) ([.ref (ad 0)] : List Value).toArray s 0 0 (fl_A ad 41)) (F0 m 27 ls []) := by
    intro N ls H locs hN0 hl hP hS
    have hP : va_P D cls (fl_w ad (yc ad cA) 41 (yj_a M)) H := by rw [← hN0]; exact hP
    refine lv_iconst (v := 0) hx hb d_MD_tick_27 (by decide) ?_
    refine lv_istore_n (lv' := [(3, .int 0), (0, .ref (ad 0))]) hx hb d_MD_tick_28 rfl hl (by decide) rfl (fun ls hl => ?_)
    have lp_29 : ∀ (k_29 : Nat) (i_29 : Nat) (M1 : fl_M) (ls : Array Slot) (H : Heap) (locs : List Loc), i_29 + k_29 = 16 → lv_has ls 6 [(0, .ref (ad 0)), (3, .int (nI i_29))] → va_P D cls (fl_w ad (yc ad cA) 41 M1) H → va_S (fl_A ad 41) s.heap H locs → (∀ (v : fl_M) (ls : Array Slot) (H : Heap) (locs : List Loc), v = g_MD_tick_L29  k_29 i_29 M1 → lv_has ls 6 [(0, .ref (ad 0))] → va_P D cls (fl_w ad (yc ad cA) 41 v) H → va_S (fl_A ad 41) s.heap H locs → W p l e (headSpec w_MD_tick ({ frames := 7, cells := 0, slots := 0, locals := 170 } : Room)).room s m ([.ref (ad 0)] : List Value).toArray below meth c H locs 0 0 (MQ below (va_Qv (fun M' => M' = (g_MD_tick M)) (fl_E D cls ad (yc ad cA) 41) (fl_A ad 41)) ([.ref (ad 0)] : List Value).toArray s 0 0 (fl_A ad 41)) (F0 m 46 ls [])) → W p l e (headSpec w_MD_tick ({ frames := 7, cells := 0, slots := 0, locals := 170 } : Room)).room s m ([.ref (ad 0)] : List Value).toArray below meth c H locs 0 0 (MQ below (va_Qv (fun M' => M' = (g_MD_tick M)) (fl_E D cls ad (yc ad cA) 41) (fl_A ad 41)) ([.ref (ad 0)] : List Value).toArray s 0 0 (fl_A ad 41)) (F0 m 29 ls []) := by
      intro k_29
      induction k_29 with
      | zero =>
        intro i_29 M1 ls H locs hbd hl hP hS kk
        have hG : g_MD_tick_L29  0 i_29 M1 = _ := g_MD_tick_L29.eq_1 ..
        refine lv_iload_n hx hb d_MD_tick_29 rfl (lv_at hl 1 rfl) ?_
        refine lv_bipush (v := 16) hx hb d_MD_tick_30 (by decide) ?_
        refine lv_icmp_ge (tgt := 46) hx hb d_MD_tick_32 (by decide) (fun _ => ?_) (fun h_2 => absurd (fl_le (b := 16) rfl (by omega) (by omega)) h_2)
        have hl := lv_sub (l' := [(0, .ref (ad 0))]) hl [0] rfl
        exact kk (M1) ls _ _ hG.symm hl hP hS
      | succ k_29 ih_29 =>
        intro i_29 M1 ls H locs hbd hl hP hS kk
        have hG : g_MD_tick_L29  (k_29 + 1) i_29 M1 = _ := g_MD_tick_L29.eq_2 ..
        refine lv_iload_n hx hb d_MD_tick_29 rfl (lv_at hl 1 rfl) ?_
        refine lv_bipush (v := 16) hx hb d_MD_tick_30 (by decide) ?_
        refine lv_icmp_ge (tgt := 46) hx hb d_MD_tick_32 (by decide) (fun h_3 => absurd h_3 (fl_nle (b := 16) rfl (by omega) (by omega))) (fun _ => ?_)
        refine lv_aload_n hx hb d_MD_tick_35 rfl (lv_at hl 0 rfl) ?_
        refine lv_iload_n hx hb d_MD_tick_36 rfl (lv_at hl 1 rfl) ?_
        refine fl_callv (va_runV (As := [.int (nI i_29)]) (rest := []) ⟨hx, hb, hml, hown, hts⟩ (c_MD_craftClocks l hi M1 (nI i_29) (vp_in_nI (by omega) (by decide))) (kv_MD_craftClocks hts (hts _ (List.mem_cons_of_mem _ tw_1065)) ⟨Nat.le_of_ble_eq_true rfl, Nat.le_of_ble_eq_true rfl⟩) (fl_preV hK hSt hN hS hP (by decide) (kg_MD) rfl) rfl rfl hl.1 rfl (lv_room (Nat.le_of_ble_eq_true rfl)) d_MD_tick_37 ⟨Nat.zero_le _, Nat.zero_le _⟩) hS (fun H locs hP hS => ?_)
        refine lv_iinc (k := 1) (v := nI (i_29 + 1)) (lv' := [(3, .int (nI (i_29 + 1))), (0, .ref (ad 0))]) hx hb d_MD_tick_40 hl rfl (fl_inc _) (by decide) rfl (fun ls hl => ?_)
        refine lv_goto (tgt := 29) hx hb d_MD_tick_43 (by decide) ?_
        have hl := lv_sub (l' := [(0, .ref (ad 0)), (3, .int (nI (i_29 + 1)))]) hl [1, 0] rfl
        exact ih_29 (i_29 + 1) (g_MD_craftClocks M1 (nI i_29)) ls _ _ (by omega) hl hP hS (fun v ls H locs hv => kk v ls H locs (hv.trans hG.symm))
    have hl := lv_sub (l' := [(0, .ref (ad 0)), (3, .int (nI 0))]) hl [1, 0] rfl
    refine lp_29 16 0 (yj_a M) ls _ _ (by omega) hl hP hS (fun v ls H locs hv hl hP hS => ?_)
    have hP : va_P D cls (fl_w ad (yc ad cA) 41 (g_MD_tick_L29  16 0 (yj_a M))) H := by rw [← hv]; exact hP
    refine lv_aload_n hx hb d_MD_tick_46 rfl (lv_at hl 0 rfl) ?_
    refine fl_callv (va_runV (As := []) (rest := []) ⟨hx, hb, hml, hown, hts⟩ (c_MD_craftSends l hi (g_MD_tick_L29  16 0 (yj_a M))) (kv_MD_craftSends hts (hts _ (List.mem_cons_of_mem _ tw_1069)) ⟨Nat.le_of_ble_eq_true rfl, Nat.le_of_ble_eq_true rfl⟩) (fl_preV hK hSt hN hS hP (by decide) (kg_MD) rfl) rfl rfl hl.1 rfl (lv_room (Nat.le_of_ble_eq_true rfl)) d_MD_tick_47 ⟨Nat.zero_le _, Nat.zero_le _⟩) hS (fun H locs hP hS => ?_)
    have hP : va_P D cls (fl_w ad (yc ad cA) 41 (yk_b M)) H := hP
    refine lv_aload_n hx hb d_MD_tick_50 rfl (lv_at hl 0 rfl) ?_
    refine lv_iconst (v := 1) hx hb d_MD_tick_51 (by decide) ?_
    refine fl_calll (va_runV (As := [.int 1]) (rest := []) ⟨hx, hb, hml, hown, hts⟩ (c_MD_hear l hi (yk_b M) 1 (vp_in_nI (n := 1) (by decide) (by decide))) (kv_MD_hear hts (hts _ (List.mem_cons_of_mem _ tw_1031)) ⟨Nat.le_of_ble_eq_true rfl, Nat.le_of_ble_eq_true rfl⟩) (fl_preV hK hSt hN hS hP (by decide) (kg_MD) rfl) rfl rfl hl.1 rfl (lv_room (Nat.le_of_ble_eq_true rfl)) d_MD_tick_52 ⟨Nat.zero_le _, Nat.zero_le _⟩) hS (fun H locs hP hS => ?_)
    have hP : va_P D cls (fl_w ad (yc ad cA) 41 (yk_c M)) H := hP
    refine W.eq (g2 := F0 m 55 ls [.long (yk_cv M)]) rfl ?_
    refine lv_lstore_n (lv' := [(3, .long (yk_cv M)), (0, .ref (ad 0))]) hx hb d_MD_tick_55 rfl hl (by decide) rfl (fun ls hl => ?_)
    refine lv_lload_n hx hb d_MD_tick_56 rfl (lv_at hl 0 rfl) ?_
    refine lv_lconst (v := 0) hx hb d_MD_tick_57 (by decide) ?_
    refine W.lcmp hx hb d_MD_tick_58 ?_
    have jn_72 : ∀ (N : fl_M) (ls : Array Slot) (H : Heap) (locs : List Loc), N = yj_b M → lv_has ls 6 [(0, .ref (ad 0))] → va_P D cls (fl_w ad (yc ad cA) 41 N) H → va_S (fl_A ad 41) s.heap H locs → W p l e (headSpec w_MD_tick ({ frames := 7, cells := 0, slots := 0, locals := 170 } : Room)).room s m ([.ref (ad 0)] : List Value).toArray below meth c H locs 0 0 (MQ below (va_Qv (fun M' => M' = (g_MD_tick M)) (fl_E D cls ad (yc ad cA) 41) (fl_A ad 41)) ([.ref (ad 0)] : List Value).toArray s 0 0 (fl_A ad 41)) (F0 m 72 ls []) := by
      intro N ls H locs hN0 hl hP hS
      have hP : va_P D cls (fl_w ad (yc ad cA) 41 (yj_b M)) H := by rw [← hN0]; exact hP
      refine lv_aload_n hx hb d_MD_tick_72 rfl (lv_at hl 0 rfl) ?_
      refine fl_callv (va_runV (As := []) (rest := []) ⟨hx, hb, hml, hown, hts⟩ (c_MD_frameClocks l hi (yj_b M) hT7 hT8) (kv_MD_frameClocks hts (hts _ (List.mem_cons_of_mem _ tw_1106)) ⟨Nat.le_of_ble_eq_true rfl, Nat.le_of_ble_eq_true rfl⟩) (fl_preV hK hSt hN hS hP (by decide) (kg_MD) rfl) rfl rfl hl.1 rfl (lv_room (Nat.le_of_ble_eq_true rfl)) d_MD_tick_73 ⟨Nat.zero_le _, Nat.zero_le _⟩) hS (fun H locs hP hS => ?_)
      have hP : va_P D cls (fl_w ad (yc ad cA) 41 (yk_d M)) H := hP
      refine lv_iconst (v := 0) hx hb d_MD_tick_76 (by decide) ?_
      refine lv_istore (lv' := [(5, .int 0), (0, .ref (ad 0))]) hx hb d_MD_tick_77 hl (by decide) rfl (fun ls hl => ?_)
      have lp_79 : ∀ (k_79 : Nat) (i_79 : Nat) (M1 : fl_M) (ls : Array Slot) (H : Heap) (locs : List Loc), i_79 + k_79 = ((yk_d M).1 0 13).toNatClampNeg → M1.1 0 13 = (yk_d M).1 0 13 → lv_has ls 6 [(0, .ref (ad 0)), (5, .int (nI i_79))] → va_P D cls (fl_w ad (yc ad cA) 41 M1) H → va_S (fl_A ad 41) s.heap H locs → (∀ (v : fl_M) (ls : Array Slot) (H : Heap) (locs : List Loc), v = g_MD_tick_L79  k_79 i_79 M1 → lv_has ls 6 [(0, .ref (ad 0))] → va_P D cls (fl_w ad (yc ad cA) 41 v) H → va_S (fl_A ad 41) s.heap H locs → W p l e (headSpec w_MD_tick ({ frames := 7, cells := 0, slots := 0, locals := 170 } : Room)).room s m ([.ref (ad 0)] : List Value).toArray below meth c H locs 0 0 (MQ below (va_Qv (fun M' => M' = (g_MD_tick M)) (fl_E D cls ad (yc ad cA) 41) (fl_A ad 41)) ([.ref (ad 0)] : List Value).toArray s 0 0 (fl_A ad 41)) (F0 m 100 ls [])) → W p l e (headSpec w_MD_tick ({ frames := 7, cells := 0, slots := 0, locals := 170 } : Room)).room s m ([.ref (ad 0)] : List Value).toArray below meth c H locs 0 0 (MQ below (va_Qv (fun M' => M' = (g_MD_tick M)) (fl_E D cls ad (yc ad cA) 41) (fl_A ad 41)) ([.ref (ad 0)] : List Value).toArray s 0 0 (fl_A ad 41)) (F0 m 79 ls []) := by
        intro k_79
        induction k_79 with
        | zero =>
          intro i_79 M1 ls H locs hbd hI hl hP hS kk
          have hG : g_MD_tick_L79  0 i_79 M1 = _ := g_MD_tick_L79.eq_1 ..
          refine lv_iload hx hb d_MD_tick_79 (lv_at hl 1 rfl) ?_
          refine lv_aload_n hx hb d_MD_tick_81 rfl (lv_at hl 0 rfl) ?_
          refine gg_MD (k := 13) (v := .int (M1.1 0 13)) hx hb hts hown hK hP  (hts _ (List.mem_cons_of_mem _ tw_794)) (by decide) rfl rfl d_MD_tick_82 ?_
          refine lv_icmp_ge (tgt := 100) hx hb d_MD_tick_85 (by decide) (fun _ => ?_) (fun h_5 => absurd (fl_le (b := ((yk_d M).1 0 13).toNatClampNeg) (hI.trans hC1) (by omega) (by omega)) h_5)
          have hl := lv_sub (l' := [(0, .ref (ad 0))]) hl [0] rfl
          exact kk (M1) ls _ _ hG.symm hl hP hS
        | succ k_79 ih_79 =>
          intro i_79 M1 ls H locs hbd hI hl hP hS kk
          have hG : g_MD_tick_L79  (k_79 + 1) i_79 M1 = _ := g_MD_tick_L79.eq_2 ..
          refine lv_iload hx hb d_MD_tick_79 (lv_at hl 1 rfl) ?_
          refine lv_aload_n hx hb d_MD_tick_81 rfl (lv_at hl 0 rfl) ?_
          refine gg_MD (k := 13) (v := .int (M1.1 0 13)) hx hb hts hown hK hP  (hts _ (List.mem_cons_of_mem _ tw_794)) (by decide) rfl rfl d_MD_tick_82 ?_
          refine lv_icmp_ge (tgt := 100) hx hb d_MD_tick_85 (by decide) (fun h_6 => absurd h_6 (fl_nle (b := ((yk_d M).1 0 13).toNatClampNeg) (hI.trans hC1) (by omega) (by omega))) (fun _ => ?_)
          refine lv_aload_n hx hb d_MD_tick_88 rfl (lv_at hl 0 rfl) ?_
          refine lv_iload hx hb d_MD_tick_89 (lv_at hl 1 rfl) ?_
          refine fl_callv (va_runV (As := [.int (nI i_79)]) (rest := []) ⟨hx, hb, hml, hown, hts⟩ (c_MD_groundClocks l hi M1 (nI i_79) (vp_in_nI (by omega) (by decide))) (kv_MD_groundClocks hts (hts _ (List.mem_cons_of_mem _ tw_1110)) ⟨Nat.le_of_ble_eq_true rfl, Nat.le_of_ble_eq_true rfl⟩) (fl_preV hK hSt hN hS hP (by decide) (kg_MD) rfl) rfl rfl hl.1 rfl (lv_room (Nat.le_of_ble_eq_true rfl)) d_MD_tick_91 ⟨Nat.zero_le _, Nat.zero_le _⟩) hS (fun H locs hP hS => ?_)
          refine lv_iinc (k := 1) (v := nI (i_79 + 1)) (lv' := [(5, .int (nI (i_79 + 1))), (0, .ref (ad 0))]) hx hb d_MD_tick_94 hl rfl (fl_inc _) (by decide) rfl (fun ls hl => ?_)
          refine lv_goto (tgt := 79) hx hb d_MD_tick_97 (by decide) ?_
          have hl := lv_sub (l' := [(0, .ref (ad 0)), (5, .int (nI (i_79 + 1)))]) hl [1, 0] rfl
          exact ih_79 (i_79 + 1) (g_MD_groundClocks M1 (nI i_79)) ls _ _ (by omega) ((gc_cnt _ _).trans hI) hl hP hS (fun v ls H locs hv => kk v ls H locs (hv.trans hG.symm))
      have hl := lv_sub (l' := [(0, .ref (ad 0)), (5, .int (nI 0))]) hl [1, 0] rfl
      refine lp_79 (((yk_d M).1 0 13).toNatClampNeg) 0 (yk_d M) ls _ _ (by omega) (rfl) hl hP hS (fun v ls H locs hv hl hP hS => ?_)
      have hP : va_P D cls (fl_w ad (yc ad cA) 41 (g_MD_tick_L79  (((yk_d M).1 0 13).toNatClampNeg) 0 (yk_d M))) H := by rw [← hv]; exact hP
      refine lv_aload_n hx hb d_MD_tick_100 rfl (lv_at hl 0 rfl) ?_
      refine fl_callv (va_runV (As := []) (rest := []) ⟨hx, hb, hml, hown, hts⟩ (c_MD_groundSends l hi (g_MD_tick_L79  (((yk_d M).1 0 13).toNatClampNeg) 0 (yk_d M)) hT9 hT10 hT11 hT12 hT13 hT14) (kv_MD_groundSends hts (hts _ (List.mem_cons_of_mem _ tw_1114)) ⟨Nat.le_of_ble_eq_true rfl, Nat.le_of_ble_eq_true rfl⟩) (fl_preV hK hSt hN hS hP (by decide) (kg_MD) rfl) rfl rfl hl.1 rfl (lv_room (Nat.le_of_ble_eq_true rfl)) d_MD_tick_101 ⟨Nat.zero_le _, Nat.zero_le _⟩) hS (fun H locs hP hS => ?_)
      exact fl_vret hx hb hr hlocks hP hS (by rw [hG]) d_MD_tick_104
    have hJ := yj_b.eq_1 M
    refine lv_if_lt (tgt := 72) hx hb d_MD_tick_59 (by decide) (fun h_4 => ?_) (fun h_4 => ?_)
    ·
      have hJ := hJ.trans (if_pos h_4)
      have hl := lv_sub (l' := [(0, .ref (ad 0))]) hl [1] rfl
      exact jn_72 _ ls _ _ hJ.symm hl hP hS
    ·
      have hJ := hJ.trans (if_neg h_4)
      refine lv_aload_n hx hb d_MD_tick_62 rfl (lv_at hl 1 rfl) ?_
      refine lv_lload_n hx hb d_MD_tick_63 rfl (lv_at hl 0 rfl) ?_
      refine fl_callv (va_runV (As := [.long (yk_cv M)]) (rest := []) ⟨hx, hb, hml, hown, hts⟩ (c_MD_groundReport l hi (yk_c M) (yk_cv M) hT5 hT6) (kv_MD_groundReport hts (hts _ (List.mem_cons_of_mem _ tw_1080)) ⟨Nat.le_of_ble_eq_true rfl, Nat.le_of_ble_eq_true rfl⟩) (fl_preV hK hSt hN hS hP (by decide) (kg_MD) rfl) rfl rfl hl.1 rfl (lv_room (Nat.le_of_ble_eq_true rfl)) d_MD_tick_64 ⟨Nat.zero_le _, Nat.zero_le _⟩) hS (fun H locs hP hS => ?_)
      refine lv_aload_n hx hb d_MD_tick_67 rfl (lv_at hl 1 rfl) ?_
      refine lv_lload_n hx hb d_MD_tick_68 rfl (lv_at hl 0 rfl) ?_
      refine fl_callv (va_runV (As := [.long (yk_cv M)]) (rest := []) ⟨hx, hb, hml, hown, hts⟩ (c_MD_groundPdu l hi (g_MD_groundReport (yk_c M) (yk_cv M)) (yk_cv M)) (kv_MD_groundPdu hts (hts _ (List.mem_cons_of_mem _ tw_1096)) ⟨Nat.le_of_ble_eq_true rfl, Nat.le_of_ble_eq_true rfl⟩) (fl_preV hK hSt hN hS hP (by decide) (kg_MD) rfl) rfl rfl hl.1 rfl (lv_room (Nat.le_of_ble_eq_true rfl)) d_MD_tick_69 ⟨Nat.zero_le _, Nat.zero_le _⟩) hS (fun H locs hP hS => ?_)
      have hl := lv_sub (l' := [(0, .ref (ad 0))]) hl [1] rfl
      exact jn_72 _ ls _ _ hJ.symm hl hP hS
  have hJ := yj_a.eq_1 M
  refine lv_if_lt (tgt := 27) hx hb d_MD_tick_19 (by decide) (fun h_1 => ?_) (fun h_1 => ?_)
  ·
    have hJ := hJ.trans (if_pos h_1)
    have hl := lv_sub (l' := [(0, .ref (ad 0))]) hl [1] rfl
    exact jn_27 _ ls _ _ hJ.symm hl hP hS
  ·
    have hJ := hJ.trans (if_neg h_1)
    refine lv_aload_n hx hb d_MD_tick_22 rfl (lv_at hl 1 rfl) ?_
    refine lv_lload_n hx hb d_MD_tick_23 rfl (lv_at hl 0 rfl) ?_
    refine fl_callv (va_runV (As := [.long (yk_av M)]) (rest := []) ⟨hx, hb, hml, hown, hts⟩ (c_MD_craftFrame l hi (yk_a M) (yk_av M) hT2 hT3 hT4) (kv_MD_craftFrame hts (hts _ (List.mem_cons_of_mem _ tw_1036)) ⟨Nat.le_of_ble_eq_true rfl, Nat.le_of_ble_eq_true rfl⟩) (fl_preV hK hSt hN hS hP (by decide) (kg_MD) rfl) rfl rfl hl.1 rfl (lv_room (Nat.le_of_ble_eq_true rfl)) d_MD_tick_24 ⟨Nat.zero_le _, Nat.zero_le _⟩) hS (fun H locs hP hS => ?_)
    have hl := lv_sub (l' := [(0, .ref (ad 0))]) hl [1] rfl
    exact jn_27 _ ls _ _ hJ.symm hl hP hS
theorem hd_MD_tick : y_MD_tick.cls ≠ "java/lang/invoke/MethodHandle" ∧ y_MD_tick.cls ≠ "java/lang/invoke/VarHandle" ∧ (parseMethodDescriptor y_MD_tick.desc).map (fun d => d.parameters.length) = some 0 := by decide +kernel
theorem kv_MD_tick {R : Room} {s : State} {args : Array Value} {c0 : Cond} {own : String} {index : Nat} (hts : ∀ w ∈ c0 :: gw, w.before args s = true) (hl : (Cond.methodLink own index y_MD_tick).before args s = true) (hR : 7 + 1 ≤ R.frames ∧ 8 + (6 + 11) + 170 ≤ R.locals) : CallW R s args own "FarLinkModel" index y_MD_tick b_MD_tick 6 none w_MD_tick ({ frames := 7, cells := 0, slots := 0, locals := 170 } : Room) 0 0 0 := ⟨callB_of 0 hts (gw_in tw_1030) rfl rfl rfl (hts _ (List.mem_cons_of_mem _ tw_10)) hl hd_MD_tick hR, hts _ (List.mem_cons_of_mem _ tw_1029), hts _ (List.mem_cons_of_mem _ ps_MD_tick)⟩
