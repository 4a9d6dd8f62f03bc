/-! contracts: 18.tr -/
theorem lw_L (f w : Nat → Int32) : ∀ k i : Nat, i + k = 16 → ∃ j : Nat, j ≤ 16 ∧ g_TR_leastWordDue_L2 f w k i = nI j := by
  intro k
  induction k with
  | zero => intro i h; exact ⟨i, by omega, g_TR_leastWordDue_L2.eq_1 ..⟩
  | succ k ih =>
    intro i h
    rw [g_TR_leastWordDue_L2]
    split
    · exact ih (i + 1) (by omega)
    · exact ⟨i, by omega, rfl⟩
theorem lw_in {f w : Nat → Int32} (h : ¬ 16 ≤ g_TR_leastWordDue f w) : vp_in (g_TR_leastWordDue f w) 16 := by
  obtain ⟨j, hj, e⟩ := lw_L f w 16 0 rfl
  have e2 : g_TR_leastWordDue f w = nI j := (g_TR_leastWordDue.eq_1 f w).trans e
  rw [e2] at h ⊢
  refine vp_in_nI ?_ (by decide)
  rcases Nat.lt_or_ge j 16 with h1 | h1
  · exact h1
  · exact absurd (nI_le (a := 16) h1 (by omega)) h
theorem nn_pos {x : Int32} (h : ¬ x ≤ 0) : nn x := nn_of (fun q => h (Int32.le_of_lt q))
def g_TR_nextPdu (f : Nat → Int32) (w : Nat → Int32) : Int64 × (Nat → Int32) × (Nat → Int32) :=
  if ((f 6) &&& 262144) = 0 then (if ((f 6) &&& 65536) = 0 then (if 16 ≤ (g_TR_leastWordDue f w) then (if (f 12) = 0 then (((g_TR_pdu (upd (upd f 6 ((f 6) &&& (-131073))) 8 (3 * (f 1))) w 3 (f 3) (g_FL_sumBelow w (f 3))), (upd (upd f 6 ((f 6) &&& (-131073))) 8 (3 * (f 1))), w)) else (((g_TR_pdu (upd (upd f 6 ((f 6) &&& (-131073))) 8 (3 * (f 1))) w 4 0 0), (upd (upd f 6 ((f 6) &&& (-131073))) 8 (3 * (f 1))), w))) else (((g_TR_pdu (upd f 6 ((f 6) &&& ((1 <<< ((g_TR_leastWordDue f w) &&& 31)) ^^^ (-1)))) w 2 (g_TR_leastWordDue f w) (w ((g_TR_leastWordDue f w).toNatClampNeg))), (upd f 6 ((f 6) &&& ((1 <<< ((g_TR_leastWordDue f w) &&& 31)) ^^^ (-1)))), w))) else (((g_TR_pdu (upd f 6 ((f 6) &&& (-65537))) w 1 (f 3) (f 4)), (upd f 6 ((f 6) &&& (-65537))), w))) else (((g_TR_pdu (upd f 6 ((f 6) &&& (-262145))) w 5 0 0), (upd f 6 ((f 6) &&& (-262145))), w))
set_option maxHeartbeats 4000000 in
set_option maxRecDepth 100000 in
theorem c_TR_nextPdu (l : Launch) {D : va_G} {ad : Nat → Nat} {cA : Nat → ClassId} {st : Nat → Nat} (hi : fl_inj ad 88) {q : Nat} (hq : is_TR q) (M : fl_M) (f : Nat → Int32) (w : Nat → Int32) : Met l y_TR_nextPdu w_TR_nextPdu ({ frames := 1, cells := 0, slots := 0, locals := 25 } : Room) (va_Pc [.ref (ad q)] (fl_B D cls (xt cA) (xSL st) xFN xMN ad (xc ad cA) 88 (pTR M q f w))) (va_Ql (fun r M' => r = (g_TR_nextPdu f w).1 ∧ M' = (pTR M q ((g_TR_nextPdu f w).2.1) ((g_TR_nextPdu f w).2.2))) (fl_E D cls ad (xc ad cA) 88) (fl_A ad 88)) 0 0 (fl_A ad 88) := by
  refine Met.ofW (cc := b_TR_nextPdu) (maxL := 2) (ret := (some .long)) (by decide) rfl ?_
  intro p e s m args below meth c s₁ B hml hv
  obtain ⟨rfl, hP, hK, hSt, hN⟩ := hv
  have hx := B.exec
  have hb := B.bytes
  have hr := B.returns
  have hts := atoms_spec (ws := w_TR_nextPdu) B.pre
  have hown : s.vm.findClass "FarLink$Transaction" = some m.cls := findClass_of_methodNamed B.named
  have hlocks := B.notSynchronized
  have hS : va_S (fl_A ad 88) s.heap s.heap [] := va_S.rf
  have hl := lv_entry ([.ref (ad q)]) (n := 2) (Nat.le_of_ble_eq_true rfl)
  rw [lg_entry_eq]
  generalize (lg_sl ([.ref (ad q)]) ++ List.replicate (2 - (lg_sl ([.ref (ad q)])).length) Slot.unset).toArray = ls at hl ⊢
  have hl : lv_has ls 2 [(0, .ref (ad q))] := hl
  have hG := g_TR_nextPdu.eq_1 f w
  refine lv_aload_n hx hb d_TR_nextPdu_0 rfl (lv_at hl 0 rfl) ?_
  refine gt_TR (k := 6) (v := .int (f 6)) hx hb hts hown hK hP hq (hts _ (List.mem_cons_of_mem _ tw_132)) (by decide) rfl rfl d_TR_nextPdu_1 ?_
  refine lv_ldc (v := 262144) hx hb hown (hts _ (List.mem_cons_of_mem _ tw_618)) d_TR_nextPdu_4 ?_
  refine lv_iand hx hb d_TR_nextPdu_6 ?_
  refine lv_if_eq (tgt := 29) hx hb d_TR_nextPdu_7 (by decide) (fun h_1 => ?_) (fun h_1 => ?_)
  ·
    have hG := hG.trans (if_pos h_1)
    refine lv_aload_n hx hb d_TR_nextPdu_29 rfl (lv_at hl 0 rfl) ?_
    refine gt_TR (k := 6) (v := .int (f 6)) hx hb hts hown hK hP hq (hts _ (List.mem_cons_of_mem _ tw_132)) (by decide) rfl rfl d_TR_nextPdu_30 ?_
    refine lv_ldc (v := 65536) hx hb hown (hts _ (List.mem_cons_of_mem _ tw_619)) d_TR_nextPdu_33 ?_
    refine lv_iand hx hb d_TR_nextPdu_35 ?_
    refine lv_if_eq (tgt := 64) hx hb d_TR_nextPdu_36 (by decide) (fun h_2 => ?_) (fun h_2 => ?_)
    ·
      have hG := hG.trans (if_pos h_2)
      refine lv_aload_n hx hb d_TR_nextPdu_64 rfl (lv_at hl 0 rfl) ?_
      refine fl_calli (va_runV (As := []) (rest := []) ⟨hx, hb, hml, hown, hts⟩ (c_TR_leastWordDue l hi hq M f w) (kv_TR_leastWordDue hts (hts _ (List.mem_cons_of_mem _ tw_675)) ⟨Nat.le_of_ble_eq_true rfl, Nat.le_of_ble_eq_true rfl⟩) (fl_preV hK hSt hN hS hP (lt_TR hq) (kc_TR hq) rfl) rfl rfl hl.1 rfl (lv_room (Nat.le_of_ble_eq_true rfl)) d_TR_nextPdu_65 ⟨Nat.zero_le _, Nat.zero_le _⟩) hS (fun H locs hP hS => ?_)
      refine lv_istore_n (lv' := [(1, .int (g_TR_leastWordDue f w)), (0, .ref (ad q))]) hx hb d_TR_nextPdu_68 rfl hl (by decide) rfl (fun ls hl => ?_)
      refine lv_iload_n hx hb d_TR_nextPdu_69 rfl (lv_at hl 0 rfl) ?_
      refine lv_bipush (v := 16) hx hb d_TR_nextPdu_70 (by decide) ?_
      refine lv_icmp_ge (tgt := 102) hx hb d_TR_nextPdu_72 (by decide) (fun h_3 => ?_) (fun h_3 => ?_)
      ·
        have hG := hG.trans (if_pos h_3)
        refine lv_aload_n hx hb d_TR_nextPdu_102 rfl (lv_at hl 1 rfl) ?_
        refine lv_dup hx hb d_TR_nextPdu_103 rfl ?_
        refine gt_TR (k := 6) (v := .int (f 6)) hx hb hts hown hK hP hq (hts _ (List.mem_cons_of_mem _ tw_132)) (by decide) rfl rfl d_TR_nextPdu_104 ?_
        refine lv_ldc (v := -131073) hx hb hown (hts _ (List.mem_cons_of_mem _ tw_679)) d_TR_nextPdu_107 ?_
        refine lv_iand hx hb d_TR_nextPdu_109 ?_
        refine pt_TR (k := 6) hx hb hts hown hK hi hP hS hq (hts _ (List.mem_cons_of_mem _ tw_132)) (by decide) rfl rfl rfl rfl (Nat.le_of_ble_eq_true rfl) rfl d_TR_nextPdu_110 (fun H locs hP hS => ?_)
        refine lv_aload_n hx hb d_TR_nextPdu_113 rfl (lv_at hl 1 rfl) ?_
        refine lv_iconst (v := 3) hx hb d_TR_nextPdu_114 (by decide) ?_
        refine lv_aload_n hx hb d_TR_nextPdu_115 rfl (lv_at hl 1 rfl) ?_
        refine gt_TR (k := 1) (v := .int (f 1)) hx hb hts hown hK hP hq (hts _ (List.mem_cons_of_mem _ tw_126)) (by decide) rfl rfl d_TR_nextPdu_116 ?_
        refine lv_imul hx hb d_TR_nextPdu_119 ?_
        refine pt_TR (k := 8) hx hb hts hown hK hi hP hS hq (hts _ (List.mem_cons_of_mem _ tw_134)) (by decide) rfl rfl rfl rfl (Nat.le_of_ble_eq_true rfl) rfl d_TR_nextPdu_120 (fun H locs hP hS => ?_)
        refine lv_aload_n hx hb d_TR_nextPdu_123 rfl (lv_at hl 1 rfl) ?_
        refine gt_TR (k := 12) (v := .int (f 12)) hx hb hts hown hK hP hq (hts _ (List.mem_cons_of_mem _ tw_138)) (by decide) rfl rfl d_TR_nextPdu_124 ?_
        refine lv_if_eq (tgt := 140) hx hb d_TR_nextPdu_127 (by decide) (fun h_4 => ?_) (fun h_4 => ?_)
        ·
          have hG := hG.trans (if_pos h_4)
          refine lv_aload_n hx hb d_TR_nextPdu_140 rfl (lv_at hl 1 rfl) ?_
          refine lv_iconst (v := 3) hx hb d_TR_nextPdu_141 (by decide) ?_
          refine lv_aload_n hx hb d_TR_nextPdu_142 rfl (lv_at hl 1 rfl) ?_
          refine gt_TR (k := 3) (v := .int (f 3)) hx hb hts hown hK hP hq (hts _ (List.mem_cons_of_mem _ tw_128)) (by decide) rfl rfl d_TR_nextPdu_143 ?_
          refine lv_aload_n hx hb d_TR_nextPdu_146 rfl (lv_at hl 1 rfl) ?_
          refine gt_TR (k := 3) (v := .int (f 3)) hx hb hts hown hK hP hq (hts _ (List.mem_cons_of_mem _ tw_128)) (by decide) rfl rfl d_TR_nextPdu_147 ?_
          refine lv_aload_n hx hb d_TR_nextPdu_150 rfl (lv_at hl 1 rfl) ?_
          refine gt_TR (k := 2) (v := .ref (ad (q + 1))) hx hb hts hown hK hP hq (hts _ (List.mem_cons_of_mem _ tw_127)) (by decide) rfl rfl d_TR_nextPdu_151 ?_
          refine fl_calli (va_runSN (As := [.int (f 3), .ref (ad (q + 1))]) (rest := [.int (f 3), .int 3, .ref (ad q)]) ⟨hx, hb, hml, hown, hts⟩ (c_FL_sumBelow l hi w (pTR M q (upd (upd f 6 ((f 6) &&& (-131073))) 8 (3 * (f 1))) w) (f 3) ⟨is_I16_TR hq, pq_TR_w⟩) (kn_FL_sumBelow hts (hN.m 10 rfl) ⟨Nat.le_of_ble_eq_true rfl, Nat.le_of_ble_eq_true rfl⟩) (fl_preS hK hSt hN hS hP) rfl rfl hl.1 rfl (lv_room (Nat.le_of_ble_eq_true rfl)) d_TR_nextPdu_154 ⟨Nat.zero_le _, Nat.zero_le _⟩) hS (fun H locs hP hS => ?_)
          refine fl_calll (va_runV (As := [.int 3, .int (f 3), .int (g_FL_sumBelow w (f 3))]) (rest := []) ⟨hx, hb, hml, hown, hts⟩ (c_TR_pdu l hi hq M (upd (upd f 6 ((f 6) &&& (-131073))) 8 (3 * (f 1))) w 3 (f 3) (g_FL_sumBelow w (f 3))) (kv_TR_pdu hts (hts _ (List.mem_cons_of_mem _ tw_669)) ⟨Nat.le_of_ble_eq_true rfl, Nat.le_of_ble_eq_true rfl⟩) (fl_preV hK hSt hN hS hP (lt_TR hq) (kc_TR hq) rfl) rfl rfl hl.1 rfl (lv_room (Nat.le_of_ble_eq_true rfl)) d_TR_nextPdu_157 ⟨Nat.zero_le _, Nat.zero_le _⟩) hS (fun H locs hP hS => ?_)
          exact fl_lret hx hb hr hlocks hP hS (congrArg Prod.fst hG).symm (by rw [hG]) d_TR_nextPdu_160
        ·
          have hG := hG.trans (if_neg h_4)
          refine lv_aload_n hx hb d_TR_nextPdu_130 rfl (lv_at hl 1 rfl) ?_
          refine lv_iconst (v := 4) hx hb d_TR_nextPdu_131 (by decide) ?_
          refine lv_iconst (v := 0) hx hb d_TR_nextPdu_132 (by decide) ?_
          refine lv_iconst (v := 0) hx hb d_TR_nextPdu_133 (by decide) ?_
          refine fl_calll (va_runV (As := [.int 4, .int 0, .int 0]) (rest := []) ⟨hx, hb, hml, hown, hts⟩ (c_TR_pdu l hi hq M (upd (upd f 6 ((f 6) &&& (-131073))) 8 (3 * (f 1))) w 4 0 0) (kv_TR_pdu hts (hts _ (List.mem_cons_of_mem _ tw_669)) ⟨Nat.le_of_ble_eq_true rfl, Nat.le_of_ble_eq_true rfl⟩) (fl_preV hK hSt hN hS hP (lt_TR hq) (kc_TR hq) rfl) rfl rfl hl.1 rfl (lv_room (Nat.le_of_ble_eq_true rfl)) d_TR_nextPdu_134 ⟨Nat.zero_le _, Nat.zero_le _⟩) hS (fun H locs hP hS => ?_)
          refine lv_goto (tgt := 160) hx hb d_TR_nextPdu_137 (by decide) ?_
          exact fl_lret hx hb hr hlocks hP hS (congrArg Prod.fst hG).symm (by rw [hG]) d_TR_nextPdu_160
      ·
        have hG := hG.trans (if_neg h_3)
        refine lv_aload_n hx hb d_TR_nextPdu_75 rfl (lv_at hl 1 rfl) ?_
        refine lv_dup hx hb d_TR_nextPdu_76 rfl ?_
        refine gt_TR (k := 6) (v := .int (f 6)) hx hb hts hown hK hP hq (hts _ (List.mem_cons_of_mem _ tw_132)) (by decide) rfl rfl d_TR_nextPdu_77 ?_
        refine lv_iconst (v := 1) hx hb d_TR_nextPdu_80 (by decide) ?_
        refine lv_iload_n hx hb d_TR_nextPdu_81 rfl (lv_at hl 0 rfl) ?_
        refine lv_ishl hx hb d_TR_nextPdu_82 ?_
        refine lv_iconst (v := -1) hx hb d_TR_nextPdu_83 (by decide) ?_
        refine lv_ixor hx hb d_TR_nextPdu_84 ?_
        refine lv_iand hx hb d_TR_nextPdu_85 ?_
        refine pt_TR (k := 6) hx hb hts hown hK hi hP hS hq (hts _ (List.mem_cons_of_mem _ tw_132)) (by decide) rfl rfl rfl rfl (Nat.le_of_ble_eq_true rfl) rfl d_TR_nextPdu_86 (fun H locs hP hS => ?_)
        refine lv_aload_n hx hb d_TR_nextPdu_89 rfl (lv_at hl 1 rfl) ?_
        refine lv_iconst (v := 2) hx hb d_TR_nextPdu_90 (by decide) ?_
        refine lv_iload_n hx hb d_TR_nextPdu_91 rfl (lv_at hl 0 rfl) ?_
        refine lv_aload_n hx hb d_TR_nextPdu_92 rfl (lv_at hl 1 rfl) ?_
        refine gt_TR (k := 2) (v := .ref (ad (q + 1))) hx hb hts hown hK hP hq (hts _ (List.mem_cons_of_mem _ tw_127)) (by decide) rfl rfl d_TR_nextPdu_93 ?_
        refine lv_iload_n hx hb d_TR_nextPdu_96 rfl (lv_at hl 0 rfl) ?_
        refine al_TRw hx hb hK hP hq (lw_in (by assumption)) d_TR_nextPdu_97 ?_
        refine fl_calll (va_runV (As := [.int 2, .int (g_TR_leastWordDue f w), .int (w ((g_TR_leastWordDue f w).toNatClampNeg))]) (rest := []) ⟨hx, hb, hml, hown, hts⟩ (c_TR_pdu l hi hq M (upd f 6 ((f 6) &&& ((1 <<< ((g_TR_leastWordDue f w) &&& 31)) ^^^ (-1)))) w 2 (g_TR_leastWordDue f w) (w ((g_TR_leastWordDue f w).toNatClampNeg))) (kv_TR_pdu hts (hts _ (List.mem_cons_of_mem _ tw_669)) ⟨Nat.le_of_ble_eq_true rfl, Nat.le_of_ble_eq_true rfl⟩) (fl_preV hK hSt hN hS hP (lt_TR hq) (kc_TR hq) rfl) rfl rfl hl.1 rfl (lv_room (Nat.le_of_ble_eq_true rfl)) d_TR_nextPdu_98 ⟨Nat.zero_le _, Nat.zero_le _⟩) hS (fun H locs hP hS => ?_)
        exact fl_lret hx hb hr hlocks hP hS (congrArg Prod.fst hG).symm (by rw [hG]) d_TR_nextPdu_101
    ·
      have hG := hG.trans (if_neg h_2)
      refine lv_aload_n hx hb d_TR_nextPdu_39 rfl (lv_at hl 0 rfl) ?_
      refine lv_dup hx hb d_TR_nextPdu_40 rfl ?_
      refine gt_TR (k := 6) (v := .int (f 6)) hx hb hts hown hK hP hq (hts _ (List.mem_cons_of_mem _ tw_132)) (by decide) rfl rfl d_TR_nextPdu_41 ?_
      refine lv_ldc (v := -65537) hx hb hown (hts _ (List.mem_cons_of_mem _ tw_674)) d_TR_nextPdu_44 ?_
      refine lv_iand hx hb d_TR_nextPdu_46 ?_
      refine pt_TR (k := 6) hx hb hts hown hK hi hP hS hq (hts _ (List.mem_cons_of_mem _ tw_132)) (by decide) rfl rfl rfl rfl (Nat.le_of_ble_eq_true rfl) rfl d_TR_nextPdu_47 (fun H locs hP hS => ?_)
      refine lv_aload_n hx hb d_TR_nextPdu_50 rfl (lv_at hl 0 rfl) ?_
      refine lv_iconst (v := 1) hx hb d_TR_nextPdu_51 (by decide) ?_
      refine lv_aload_n hx hb d_TR_nextPdu_52 rfl (lv_at hl 0 rfl) ?_
      refine gt_TR (k := 3) (v := .int (f 3)) hx hb hts hown hK hP hq (hts _ (List.mem_cons_of_mem _ tw_128)) (by decide) rfl rfl d_TR_nextPdu_53 ?_
      refine lv_aload_n hx hb d_TR_nextPdu_56 rfl (lv_at hl 0 rfl) ?_
      refine gt_TR (k := 4) (v := .int (f 4)) hx hb hts hown hK hP hq (hts _ (List.mem_cons_of_mem _ tw_129)) (by decide) rfl rfl d_TR_nextPdu_57 ?_
      refine fl_calll (va_runV (As := [.int 1, .int (f 3), .int (f 4)]) (rest := []) ⟨hx, hb, hml, hown, hts⟩ (c_TR_pdu l hi hq M (upd f 6 ((f 6) &&& (-65537))) w 1 (f 3) (f 4)) (kv_TR_pdu hts (hts _ (List.mem_cons_of_mem _ tw_669)) ⟨Nat.le_of_ble_eq_true rfl, Nat.le_of_ble_eq_true rfl⟩) (fl_preV hK hSt hN hS hP (lt_TR hq) (kc_TR hq) rfl) rfl rfl hl.1 rfl (lv_room (Nat.le_of_ble_eq_true rfl)) d_TR_nextPdu_60 ⟨Nat.zero_le _, Nat.zero_le _⟩) hS (fun H locs hP hS => ?_)
      exact fl_lret hx hb hr hlocks hP hS (congrArg Prod.fst hG).symm (by rw [hG]) d_TR_nextPdu_63
  ·
    have hG := hG.trans (if_neg h_1)
    refine lv_aload_n hx hb d_TR_nextPdu_10 rfl (lv_at hl 0 rfl) ?_
    refine lv_dup hx hb d_TR_nextPdu_11 rfl ?_
    refine gt_TR (k := 6) (v := .int (f 6)) hx hb hts hown hK hP hq (hts _ (List.mem_cons_of_mem _ tw_132)) (by decide) rfl rfl d_TR_nextPdu_12 ?_
    refine lv_ldc (v := -262145) hx hb hown (hts _ (List.mem_cons_of_mem _ tw_668)) d_TR_nextPdu_15 ?_
    refine lv_iand hx hb d_TR_nextPdu_17 ?_
    refine pt_TR (k := 6) hx hb hts hown hK hi hP hS hq (hts _ (List.mem_cons_of_mem _ tw_132)) (by decide) rfl rfl rfl rfl (Nat.le_of_ble_eq_true rfl) rfl d_TR_nextPdu_18 (fun H locs hP hS => ?_)
    refine lv_aload_n hx hb d_TR_nextPdu_21 rfl (lv_at hl 0 rfl) ?_
    refine lv_iconst (v := 5) hx hb d_TR_nextPdu_22 (by decide) ?_
    refine lv_iconst (v := 0) hx hb d_TR_nextPdu_23 (by decide) ?_
    refine lv_iconst (v := 0) hx hb d_TR_nextPdu_24 (by decide) ?_
    refine fl_calll (va_runV (As := [.int 5, .int 0, .int 0]) (rest := []) ⟨hx, hb, hml, hown, hts⟩ (c_TR_pdu l hi hq M (upd f 6 ((f 6) &&& (-262145))) w 5 0 0) (kv_TR_pdu hts (hts _ (List.mem_cons_of_mem _ tw_669)) ⟨Nat.le_of_ble_eq_true rfl, Nat.le_of_ble_eq_true rfl⟩) (fl_preV hK hSt hN hS hP (lt_TR hq) (kc_TR hq) rfl) rfl rfl hl.1 rfl (lv_room (Nat.le_of_ble_eq_true rfl)) d_TR_nextPdu_25 ⟨Nat.zero_le _, Nat.zero_le _⟩) hS (fun H locs hP hS => ?_)
    exact fl_lret hx hb hr hlocks hP hS (congrArg Prod.fst hG).symm (by rw [hG]) d_TR_nextPdu_28
theorem hd_TR_nextPdu : y_TR_nextPdu.cls ≠ "java/lang/invoke/MethodHandle" ∧ y_TR_nextPdu.cls ≠ "java/lang/invoke/VarHandle" ∧ (parseMethodDescriptor y_TR_nextPdu.desc).map (fun d => d.parameters.length) = some 0 := by decide +kernel
theorem kv_TR_nextPdu {R : Room} {s : State} {args : Array Value} {c0 : Cond} {own : String} {index : Nat} (hts : ∀ w ∈ c0 :: gw, w.before args s = true) (hl : (Cond.methodLink own index y_TR_nextPdu).before args s = true) (hR : 1 + 1 ≤ R.frames ∧ 8 + (2 + 11) + 25 ≤ R.locals) : CallW R s args own "FarLink$Transaction" index y_TR_nextPdu b_TR_nextPdu 2 (some .long) w_TR_nextPdu ({ frames := 1, cells := 0, slots := 0, locals := 25 } : Room) 0 0 0 := ⟨callB_of 0 hts (gw_in tw_667) rfl rfl rfl (hts _ (List.mem_cons_of_mem _ tw_6)) hl hd_TR_nextPdu hR, hts _ (List.mem_cons_of_mem _ tw_665), hts _ (List.mem_cons_of_mem _ tw_666)⟩
