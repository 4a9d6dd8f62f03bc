/-! contracts of the reference: 38.ygs -/
def g_MD_groundSends_L123 (M : fl_M) : Nat → Nat → fl_M
  | 0, i_123 => M
  | k_123 + 1, i_123 => if (M.1 18 ((nI i_123).toNatClampNeg)) = 0 then (if (M.1 15 ((nI i_123).toNatClampNeg)) = 0 then (g_MD_groundSends_L123 M k_123 (i_123 + 1)) else (if (M.1 12 ((nI i_123).toNatClampNeg)) = 0 then (if (M.1 0 28) = 0 then (if 7 ≤ (M.1 0 30) then (g_MD_groundSends_L123 M k_123 (i_123 + 1)) else ((g_MD_sendDue M (nI i_123)))) else (g_MD_groundSends_L123 M k_123 (i_123 + 1))) else ((g_MD_sendDue M (nI i_123))))) else (g_MD_groundSends_L123 M k_123 (i_123 + 1))
def g_MD_groundSends_L65 (M : fl_M) : Nat → fl_M
  | 0 => g_MD_groundSends_L123 M ((M.1 0 13).toNatClampNeg) 0
  | k_65 + 1 => if (M.1 24 ((((M.1 0 29) - (nI ((k_65 + 1) + 0))) &&& 15).toNatClampNeg)) = 0 then (g_MD_groundSends_L65 M k_65 ) else ((g_MD_sendUp (fl_i (fl_i M 24 ((((M.1 0 29) - (nI ((k_65 + 1) + 0))) &&& 15).toNatClampNeg) 0) 0 36 (M.1 0 1)) (M.2 23 ((((M.1 0 29) - (nI ((k_65 + 1) + 0))) &&& 15).toNatClampNeg))))
def g_MD_groundSends (M : fl_M) : fl_M :=
  if (M.1 0 33) = 0 then (if (M.1 0 28) = 0 then (g_MD_groundSends_L65 M ((M.1 0 30).toNatClampNeg)) else (g_MD_groundSends_L123 M ((M.1 0 13).toNatClampNeg) 0)) else (if ((fl_i (fl_i M 0 33 0) 0 36 ((fl_i M 0 33 0).1 0 1)).1 0 28) = 1 then ((g_MD_sendUp (fl_i (fl_i M 0 33 0) 0 36 ((fl_i M 0 33 0).1 0 1)) 9007199254740992)) else ((g_MD_sendUp (fl_i (fl_i M 0 33 0) 0 36 ((fl_i M 0 33 0).1 0 1)) (13510798882111488 ||| (j_lshl (((fl_i (fl_i M 0 33 0) 0 36 ((fl_i M 0 33 0).1 0 1)).1 0 29).toInt64) 48)))))
set_option maxHeartbeats 400000 in
set_option maxRecDepth 100000 in
theorem c_MD_groundSends (l : Launch) {D : va_G} {ad : Nat → Nat} {cA : Nat → ClassId} (hi : fl_inj ad 41) (M : fl_M) (hu : nn (M.1 0 30)) (hu16 : (M.1 0 30).toNatClampNeg ≤ 16) (hbg : nn (M.1 0 13)) (hb16 : (M.1 0 13).toNatClampNeg ≤ 16) (hn : vp_in (M.1 0 29) 16) (hsz : ∀ x : Int32, vp_in x 16 → nn (M.1 10 x.toNatClampNeg) ∧ (M.1 10 x.toNatClampNeg).toNatClampNeg ≤ 16) : Met l y_MD_groundSends w_MD_groundSends ({ frames := 4, cells := 0, slots := 0, locals := 108 } : Room) (va_Pc [.ref (ad 0)] (fl_B D cls (yt cA) ([] : fl_L) ([] : fl_FN) ([] : fl_MN) ad (yc ad cA) 41 M)) (va_Qv (fun M' => M' = (g_MD_groundSends M)) (fl_E D cls ad (yc ad cA) 41) (fl_A ad 41)) 0 0 (fl_A ad 41) := by
  refine Met.ofW (cc := b_MD_groundSends) (maxL := 3) (ret := none) (by decide) rfl ?_
  intro p e s m args below meth c s₁ B hml hv
  obtain ⟨rfl, hP, hK, hSt, hN⟩ := hv
  have hx := B.exec
  have hb := B.bytes
  have hr := B.returns
  have hts := atoms_spec (ws := w_MD_groundSends) B.pre
  have hown : s.vm.findClass "FarLinkModel" = some m.cls := findClass_of_methodNamed B.named
  have hlocks := B.notSynchronized
  have hS : va_S (fl_A ad 41) s.heap s.heap [] := va_S.rf
  have hl := lv_entry ([.ref (ad 0)]) (n := 3) (Nat.le_of_ble_eq_true rfl)
  rw [lg_entry_eq]
  generalize (lg_sl ([.ref (ad 0)]) ++ List.replicate (3 - (lg_sl ([.ref (ad 0)])).length) Slot.unset).toArray = ls at hl ⊢
  have hl : lv_has ls 3 [(0, .ref (ad 0))] := hl
  have hG := g_MD_groundSends.eq_1 M
  refine lv_aload_n hx hb d_MD_groundSends_0 rfl (lv_at hl 0 rfl) ?_
  refine gg_MD (k := 33) (v := .int (M.1 0 33)) hx hb hts hown hK hP  (hts _ (List.mem_cons_of_mem _ tw_814)) (by decide) rfl rfl d_MD_groundSends_1 ?_
  refine lv_if_eq (tgt := 53) hx hb d_MD_groundSends_4 (by decide) (fun h_1 => ?_) (fun h_1 => ?_)
  ·
    have hG := hG.trans (if_pos h_1)
    refine lv_aload_n hx hb d_MD_groundSends_53 rfl (lv_at hl 0 rfl) ?_
    refine gg_MD (k := 28) (v := .int (M.1 0 28)) hx hb hts hown hK hP  (hts _ (List.mem_cons_of_mem _ tw_809)) (by decide) rfl rfl d_MD_groundSends_54 ?_
    refine lv_if_ne (tgt := 121) hx hb d_MD_groundSends_57 (by decide) (fun h_2 => ?_) (fun h_2 => ?_)
    ·
      have hG := hG.trans (if_neg h_2)
      refine lv_iconst (v := 0) hx hb d_MD_groundSends_121 (by decide) ?_
      refine lv_istore_n (lv' := [(1, .int 0), (0, .ref (ad 0))]) hx hb d_MD_groundSends_122 rfl hl (by decide) rfl (fun ls hl => ?_)
      have lp_123 : ∀ (k_123 : Nat) (i_123 : Nat) (ls : Array Slot) (H : Heap) (locs : List Loc), i_123 + k_123 = (M.1 0 13).toNatClampNeg → lv_has ls 3 [(0, .ref (ad 0)), (1, .int (nI i_123))] → va_P D cls (fl_w ad (yc ad cA) 41 M) H → va_S (fl_A ad 41) s.heap H locs → g_MD_groundSends M = g_MD_groundSends_L123 M k_123 i_123 → W p l e (headSpec w_MD_groundSends ({ frames := 4, cells := 0, slots := 0, locals := 108 } : Room)).room s m ([.ref (ad 0)] : List Value).toArray below meth c H locs 0 0 (MQ below (va_Qv (fun M' => M' = (g_MD_groundSends M)) (fl_E D cls ad (yc ad cA) 41) (fl_A ad 41)) ([.ref (ad 0)] : List Value).toArray s 0 0 (fl_A ad 41)) (F0 m 123 ls []) := by
        intro k_123
        induction k_123 with
        | zero =>
          intro i_123 ls H locs hbd hl hP hS hG
          have hG := hG.trans (g_MD_groundSends_L123.eq_1 ..)
          refine lv_iload_n hx hb d_MD_groundSends_123 rfl (lv_at hl 1 rfl) ?_
          refine lv_aload_n hx hb d_MD_groundSends_124 rfl (lv_at hl 0 rfl) ?_
          refine gg_MD (k := 13) (v := .int (M.1 0 13)) hx hb hts hown hK hP  (hts _ (List.mem_cons_of_mem _ tw_794)) (by decide) rfl rfl d_MD_groundSends_125 ?_
          refine lv_icmp_ge (tgt := 186) hx hb d_MD_groundSends_128 (by decide) (fun _ => ?_) (fun h_3 => absurd (fl_le (b := (M.1 0 13).toNatClampNeg) hbg (by omega) (by omega)) h_3)
          exact fl_vret hx hb hr hlocks hP hS (by rw [hG]) d_MD_groundSends_186
        | succ k_123 ih_123 =>
          intro i_123 ls H locs hbd hl hP hS hG
          have hG := hG.trans (g_MD_groundSends_L123.eq_2 ..)
          refine lv_iload_n hx hb d_MD_groundSends_123 rfl (lv_at hl 1 rfl) ?_
          refine lv_aload_n hx hb d_MD_groundSends_124 rfl (lv_at hl 0 rfl) ?_
          refine gg_MD (k := 13) (v := .int (M.1 0 13)) hx hb hts hown hK hP  (hts _ (List.mem_cons_of_mem _ tw_794)) (by decide) rfl rfl d_MD_groundSends_125 ?_
          refine lv_icmp_ge (tgt := 186) hx hb d_MD_groundSends_128 (by decide) (fun h_4 => absurd h_4 (fl_nle (b := (M.1 0 13).toNatClampNeg) hbg (by omega) (by omega))) (fun _ => ?_)
          refine lv_aload_n hx hb d_MD_groundSends_131 rfl (lv_at hl 0 rfl) ?_
          refine gg_MD (k := 23) (v := .ref (ad 18)) hx hb hts hown hK hP  (hts _ (List.mem_cons_of_mem _ tw_804)) (by decide) rfl rfl d_MD_groundSends_132 ?_
          refine lv_iload_n hx hb d_MD_groundSends_135 rfl (lv_at hl 1 rfl) ?_
          refine ag_Asuspended (v := .int (M.1 18 ((nI i_123).toNatClampNeg))) hx hb hK hP  (vp_in_nI (by omega) (by decide)) rfl d_MD_groundSends_136 ?_
          refine lv_if_ne (tgt := 180) hx hb d_MD_groundSends_137 (by decide) (fun h_5 => ?_) (fun h_5 => ?_)
          ·
            have hG := hG.trans (if_neg h_5)
            refine lv_iinc (k := 1) (v := nI (i_123 + 1)) (lv' := [(1, .int (nI (i_123 + 1))), (0, .ref (ad 0))]) hx hb d_MD_groundSends_180 hl rfl (fl_inc _) (by decide) rfl (fun ls hl => ?_)
            refine lv_goto (tgt := 123) hx hb d_MD_groundSends_183 (by decide) ?_
            have hl := lv_sub (l' := [(0, .ref (ad 0)), (1, .int (nI (i_123 + 1)))]) hl [1, 0] rfl
            exact ih_123 (i_123 + 1) ls _ _ (by omega) hl hP hS hG
          ·
            have hG := hG.trans (if_pos h_5)
            refine lv_aload_n hx hb d_MD_groundSends_140 rfl (lv_at hl 0 rfl) ?_
            refine gg_MD (k := 20) (v := .ref (ad 15)) hx hb hts hown hK hP  (hts _ (List.mem_cons_of_mem _ tw_801)) (by decide) rfl rfl d_MD_groundSends_141 ?_
            refine lv_iload_n hx hb d_MD_groundSends_144 rfl (lv_at hl 1 rfl) ?_
            refine ag_Adue (v := .int (M.1 15 ((nI i_123).toNatClampNeg))) hx hb hK hP  (vp_in_nI (by omega) (by decide)) rfl d_MD_groundSends_145 ?_
            refine lv_if_eq (tgt := 180) hx hb d_MD_groundSends_146 (by decide) (fun h_6 => ?_) (fun h_6 => ?_)
            ·
              have hG := hG.trans (if_pos h_6)
              refine lv_iinc (k := 1) (v := nI (i_123 + 1)) (lv' := [(1, .int (nI (i_123 + 1))), (0, .ref (ad 0))]) hx hb d_MD_groundSends_180 hl rfl (fl_inc _) (by decide) rfl (fun ls hl => ?_)
              refine lv_goto (tgt := 123) hx hb d_MD_groundSends_183 (by decide) ?_
              have hl := lv_sub (l' := [(0, .ref (ad 0)), (1, .int (nI (i_123 + 1)))]) hl [1, 0] rfl
              exact ih_123 (i_123 + 1) ls _ _ (by omega) hl hP hS hG
            ·
              have hG := hG.trans (if_neg h_6)
              refine lv_aload_n hx hb d_MD_groundSends_149 rfl (lv_at hl 0 rfl) ?_
              refine gg_MD (k := 17) (v := .ref (ad 12)) hx hb hts hown hK hP  (hts _ (List.mem_cons_of_mem _ tw_798)) (by decide) rfl rfl d_MD_groundSends_150 ?_
              refine lv_iload_n hx hb d_MD_groundSends_153 rfl (lv_at hl 1 rfl) ?_
              refine ag_Aloose (v := .int (M.1 12 ((nI i_123).toNatClampNeg))) hx hb hK hP  (vp_in_nI (by omega) (by decide)) rfl d_MD_groundSends_154 ?_
              refine lv_if_ne (tgt := 174) hx hb d_MD_groundSends_155 (by decide) (fun h_7 => ?_) (fun h_7 => ?_)
              ·
                have hG := hG.trans (if_neg h_7)
                refine lv_aload_n hx hb d_MD_groundSends_174 rfl (lv_at hl 0 rfl) ?_
                refine lv_iload_n hx hb d_MD_groundSends_175 rfl (lv_at hl 1 rfl) ?_
                refine fl_callv (va_runV (As := [.int (nI i_123)]) (rest := []) ⟨hx, hb, hml, hown, hts⟩ (c_MD_sendDue l hi M (nI i_123) (vp_in_nI (by omega) (by decide)) ((hsz _ (vp_in_nI (by omega) (by decide))).1) ((hsz _ (vp_in_nI (by omega) (by decide))).2) (hn)) (kv_MD_sendDue hts (hts _ (List.mem_cons_of_mem _ tw_1124)) ⟨Nat.le_of_ble_eq_true rfl, Nat.le_of_ble_eq_true rfl⟩) (fl_preV hK hSt hN hS hP (by decide) (kg_MD) rfl) rfl rfl hl.1 rfl (lv_room (Nat.le_of_ble_eq_true rfl)) d_MD_groundSends_176 ⟨Nat.zero_le _, Nat.zero_le _⟩) hS (fun H locs hP hS => ?_)
                exact fl_vret hx hb hr hlocks hP hS (by rw [hG]) d_MD_groundSends_179
              ·
                have hG := hG.trans (if_pos h_7)
                refine lv_aload_n hx hb d_MD_groundSends_158 rfl (lv_at hl 0 rfl) ?_
                refine gg_MD (k := 28) (v := .int (M.1 0 28)) hx hb hts hown hK hP  (hts _ (List.mem_cons_of_mem _ tw_809)) (by decide) rfl rfl d_MD_groundSends_159 ?_
                refine lv_if_ne (tgt := 180) hx hb d_MD_groundSends_162 (by decide) (fun h_8 => ?_) (fun h_8 => ?_)
                ·
                  have hG := hG.trans (if_neg h_8)
                  refine lv_iinc (k := 1) (v := nI (i_123 + 1)) (lv' := [(1, .int (nI (i_123 + 1))), (0, .ref (ad 0))]) hx hb d_MD_groundSends_180 hl rfl (fl_inc _) (by decide) rfl (fun ls hl => ?_)
                  refine lv_goto (tgt := 123) hx hb d_MD_groundSends_183 (by decide) ?_
                  have hl := lv_sub (l' := [(0, .ref (ad 0)), (1, .int (nI (i_123 + 1)))]) hl [1, 0] rfl
                  exact ih_123 (i_123 + 1) ls _ _ (by omega) hl hP hS hG
                ·
                  have hG := hG.trans (if_pos h_8)
                  refine lv_aload_n hx hb d_MD_groundSends_165 rfl (lv_at hl 0 rfl) ?_
                  refine gg_MD (k := 30) (v := .int (M.1 0 30)) hx hb hts hown hK hP  (hts _ (List.mem_cons_of_mem _ tw_811)) (by decide) rfl rfl d_MD_groundSends_166 ?_
                  refine lv_bipush (v := 7) hx hb d_MD_groundSends_169 (by decide) ?_
                  refine lv_icmp_ge (tgt := 180) hx hb d_MD_groundSends_171 (by decide) (fun h_9 => ?_) (fun h_9 => ?_)
                  ·
                    have hG := hG.trans (if_pos h_9)
                    refine lv_iinc (k := 1) (v := nI (i_123 + 1)) (lv' := [(1, .int (nI (i_123 + 1))), (0, .ref (ad 0))]) hx hb d_MD_groundSends_180 hl rfl (fl_inc _) (by decide) rfl (fun ls hl => ?_)
                    refine lv_goto (tgt := 123) hx hb d_MD_groundSends_183 (by decide) ?_
                    have hl := lv_sub (l' := [(0, .ref (ad 0)), (1, .int (nI (i_123 + 1)))]) hl [1, 0] rfl
                    exact ih_123 (i_123 + 1) ls _ _ (by omega) hl hP hS hG
                  ·
                    have hG := hG.trans (if_neg h_9)
                    refine lv_aload_n hx hb d_MD_groundSends_174 rfl (lv_at hl 0 rfl) ?_
                    refine lv_iload_n hx hb d_MD_groundSends_175 rfl (lv_at hl 1 rfl) ?_
                    refine fl_callv (va_runV (As := [.int (nI i_123)]) (rest := []) ⟨hx, hb, hml, hown, hts⟩ (c_MD_sendDue l hi M (nI i_123) (vp_in_nI (by omega) (by decide)) ((hsz _ (vp_in_nI (by omega) (by decide))).1) ((hsz _ (vp_in_nI (by omega) (by decide))).2) (hn)) (kv_MD_sendDue hts (hts _ (List.mem_cons_of_mem _ tw_1124)) ⟨Nat.le_of_ble_eq_true rfl, Nat.le_of_ble_eq_true rfl⟩) (fl_preV hK hSt hN hS hP (by decide) (kg_MD) rfl) rfl rfl hl.1 rfl (lv_room (Nat.le_of_ble_eq_true rfl)) d_MD_groundSends_176 ⟨Nat.zero_le _, Nat.zero_le _⟩) hS (fun H locs hP hS => ?_)
                    exact fl_vret hx hb hr hlocks hP hS (by rw [hG]) d_MD_groundSends_179
      have hl := lv_sub (l' := [(0, .ref (ad 0)), (1, .int (nI 0))]) hl [1, 0] rfl
      exact lp_123 ((M.1 0 13).toNatClampNeg) 0 ls _ _ (by omega) hl hP hS hG
    ·
      have hG := hG.trans (if_pos h_2)
      refine lv_aload_n hx hb d_MD_groundSends_60 rfl (lv_at hl 0 rfl) ?_
      refine gg_MD (k := 30) (v := .int (M.1 0 30)) hx hb hts hown hK hP  (hts _ (List.mem_cons_of_mem _ tw_811)) (by decide) rfl rfl d_MD_groundSends_61 ?_
      refine lv_istore_n (lv' := [(1, .int (M.1 0 30)), (0, .ref (ad 0))]) hx hb d_MD_groundSends_64 rfl hl (by decide) rfl (fun ls hl => ?_)
      have lp_65 : ∀ (k_65 : Nat)  (ls : Array Slot) (H : Heap) (locs : List Loc), k_65 ≤ (M.1 0 30).toNatClampNeg → lv_has ls 3 [(0, .ref (ad 0)), (1, .int (nI (k_65 + 0)))] → va_P D cls (fl_w ad (yc ad cA) 41 M) H → va_S (fl_A ad 41) s.heap H locs → g_MD_groundSends M = g_MD_groundSends_L65 M k_65  → W p l e (headSpec w_MD_groundSends ({ frames := 4, cells := 0, slots := 0, locals := 108 } : Room)).room s m ([.ref (ad 0)] : List Value).toArray below meth c H locs 0 0 (MQ below (va_Qv (fun M' => M' = (g_MD_groundSends M)) (fl_E D cls ad (yc ad cA) 41) (fl_A ad 41)) ([.ref (ad 0)] : List Value).toArray s 0 0 (fl_A ad 41)) (F0 m 65 ls []) := by
        intro k_65
        induction k_65 with
        | zero =>
          intro  ls H locs hbd hl hP hS hG
          have hG := hG.trans (g_MD_groundSends_L65.eq_1 ..)
          refine lv_iload_n hx hb d_MD_groundSends_65 rfl (lv_at hl 1 rfl) ?_
          refine lv_iconst (v := 1) hx hb d_MD_groundSends_66 (by decide) ?_
          refine lv_icmp_lt (tgt := 121) hx hb d_MD_groundSends_67 (by decide) (fun _ => ?_) (fun h_10 => absurd (by decide) h_10)
          refine lv_iconst (v := 0) hx hb d_MD_groundSends_121 (by decide) ?_
          refine lv_istore_n (lv' := [(1, .int 0), (0, .ref (ad 0))]) hx hb d_MD_groundSends_122 rfl hl (by decide) rfl (fun ls hl => ?_)
          have lp_123 : ∀ (k_123 : Nat) (i_123 : Nat) (ls : Array Slot) (H : Heap) (locs : List Loc), i_123 + k_123 = (M.1 0 13).toNatClampNeg → lv_has ls 3 [(0, .ref (ad 0)), (1, .int (nI i_123))] → va_P D cls (fl_w ad (yc ad cA) 41 M) H → va_S (fl_A ad 41) s.heap H locs → g_MD_groundSends M = g_MD_groundSends_L123 M k_123 i_123 → W p l e (headSpec w_MD_groundSends ({ frames := 4, cells := 0, slots := 0, locals := 108 } : Room)).room s m ([.ref (ad 0)] : List Value).toArray below meth c H locs 0 0 (MQ below (va_Qv (fun M' => M' = (g_MD_groundSends M)) (fl_E D cls ad (yc ad cA) 41) (fl_A ad 41)) ([.ref (ad 0)] : List Value).toArray s 0 0 (fl_A ad 41)) (F0 m 123 ls []) := by
            intro k_123
            induction k_123 with
            | zero =>
              intro i_123 ls H locs hbd hl hP hS hG
              have hG := hG.trans (g_MD_groundSends_L123.eq_1 ..)
              refine lv_iload_n hx hb d_MD_groundSends_123 rfl (lv_at hl 1 rfl) ?_
              refine lv_aload_n hx hb d_MD_groundSends_124 rfl (lv_at hl 0 rfl) ?_
              refine gg_MD (k := 13) (v := .int (M.1 0 13)) hx hb hts hown hK hP  (hts _ (List.mem_cons_of_mem _ tw_794)) (by decide) rfl rfl d_MD_groundSends_125 ?_
              refine lv_icmp_ge (tgt := 186) hx hb d_MD_groundSends_128 (by decide) (fun _ => ?_) (fun h_11 => absurd (fl_le (b := (M.1 0 13).toNatClampNeg) hbg (by omega) (by omega)) h_11)
              exact fl_vret hx hb hr hlocks hP hS (by rw [hG]) d_MD_groundSends_186
            | succ k_123 ih_123 =>
              intro i_123 ls H locs hbd hl hP hS hG
              have hG := hG.trans (g_MD_groundSends_L123.eq_2 ..)
              refine lv_iload_n hx hb d_MD_groundSends_123 rfl (lv_at hl 1 rfl) ?_
              refine lv_aload_n hx hb d_MD_groundSends_124 rfl (lv_at hl 0 rfl) ?_
              refine gg_MD (k := 13) (v := .int (M.1 0 13)) hx hb hts hown hK hP  (hts _ (List.mem_cons_of_mem _ tw_794)) (by decide) rfl rfl d_MD_groundSends_125 ?_
              refine lv_icmp_ge (tgt := 186) hx hb d_MD_groundSends_128 (by decide) (fun h_12 => absurd h_12 (fl_nle (b := (M.1 0 13).toNatClampNeg) hbg (by omega) (by omega))) (fun _ => ?_)
              refine lv_aload_n hx hb d_MD_groundSends_131 rfl (lv_at hl 0 rfl) ?_
              refine gg_MD (k := 23) (v := .ref (ad 18)) hx hb hts hown hK hP  (hts _ (List.mem_cons_of_mem _ tw_804)) (by decide) rfl rfl d_MD_groundSends_132 ?_
              refine lv_iload_n hx hb d_MD_groundSends_135 rfl (lv_at hl 1 rfl) ?_
              refine ag_Asuspended (v := .int (M.1 18 ((nI i_123).toNatClampNeg))) hx hb hK hP  (vp_in_nI (by omega) (by decide)) rfl d_MD_groundSends_136 ?_
              refine lv_if_ne (tgt := 180) hx hb d_MD_groundSends_137 (by decide) (fun h_13 => ?_) (fun h_13 => ?_)
              ·
                have hG := hG.trans (if_neg h_13)
                refine lv_iinc (k := 1) (v := nI (i_123 + 1)) (lv' := [(1, .int (nI (i_123 + 1))), (0, .ref (ad 0))]) hx hb d_MD_groundSends_180 hl rfl (fl_inc _) (by decide) rfl (fun ls hl => ?_)
                refine lv_goto (tgt := 123) hx hb d_MD_groundSends_183 (by decide) ?_
                have hl := lv_sub (l' := [(0, .ref (ad 0)), (1, .int (nI (i_123 + 1)))]) hl [1, 0] rfl
                exact ih_123 (i_123 + 1) ls _ _ (by omega) hl hP hS hG
              ·
                have hG := hG.trans (if_pos h_13)
                refine lv_aload_n hx hb d_MD_groundSends_140 rfl (lv_at hl 0 rfl) ?_
                refine gg_MD (k := 20) (v := .ref (ad 15)) hx hb hts hown hK hP  (hts _ (List.mem_cons_of_mem _ tw_801)) (by decide) rfl rfl d_MD_groundSends_141 ?_
                refine lv_iload_n hx hb d_MD_groundSends_144 rfl (lv_at hl 1 rfl) ?_
                refine ag_Adue (v := .int (M.1 15 ((nI i_123).toNatClampNeg))) hx hb hK hP  (vp_in_nI (by omega) (by decide)) rfl d_MD_groundSends_145 ?_
                refine lv_if_eq (tgt := 180) hx hb d_MD_groundSends_146 (by decide) (fun h_14 => ?_) (fun h_14 => ?_)
                ·
                  have hG := hG.trans (if_pos h_14)
                  refine lv_iinc (k := 1) (v := nI (i_123 + 1)) (lv' := [(1, .int (nI (i_123 + 1))), (0, .ref (ad 0))]) hx hb d_MD_groundSends_180 hl rfl (fl_inc _) (by decide) rfl (fun ls hl => ?_)
                  refine lv_goto (tgt := 123) hx hb d_MD_groundSends_183 (by decide) ?_
                  have hl := lv_sub (l' := [(0, .ref (ad 0)), (1, .int (nI (i_123 + 1)))]) hl [1, 0] rfl
                  exact ih_123 (i_123 + 1) ls _ _ (by omega) hl hP hS hG
                ·
                  have hG := hG.trans (if_neg h_14)
                  refine lv_aload_n hx hb d_MD_groundSends_149 rfl (lv_at hl 0 rfl) ?_
                  refine gg_MD (k := 17) (v := .ref (ad 12)) hx hb hts hown hK hP  (hts _ (List.mem_cons_of_mem _ tw_798)) (by decide) rfl rfl d_MD_groundSends_150 ?_
                  refine lv_iload_n hx hb d_MD_groundSends_153 rfl (lv_at hl 1 rfl) ?_
                  refine ag_Aloose (v := .int (M.1 12 ((nI i_123).toNatClampNeg))) hx hb hK hP  (vp_in_nI (by omega) (by decide)) rfl d_MD_groundSends_154 ?_
                  refine lv_if_ne (tgt := 174) hx hb d_MD_groundSends_155 (by decide) (fun h_15 => ?_) (fun h_15 => ?_)
                  ·
                    have hG := hG.trans (if_neg h_15)
                    refine lv_aload_n hx hb d_MD_groundSends_174 rfl (lv_at hl 0 rfl) ?_
                    refine lv_iload_n hx hb d_MD_groundSends_175 rfl (lv_at hl 1 rfl) ?_
                    refine fl_callv (va_runV (As := [.int (nI i_123)]) (rest := []) ⟨hx, hb, hml, hown, hts⟩ (c_MD_sendDue l hi M (nI i_123) (vp_in_nI (by omega) (by decide)) ((hsz _ (vp_in_nI (by omega) (by decide))).1) ((hsz _ (vp_in_nI (by omega) (by decide))).2) (hn)) (kv_MD_sendDue hts (hts _ (List.mem_cons_of_mem _ tw_1124)) ⟨Nat.le_of_ble_eq_true rfl, Nat.le_of_ble_eq_true rfl⟩) (fl_preV hK hSt hN hS hP (by decide) (kg_MD) rfl) rfl rfl hl.1 rfl (lv_room (Nat.le_of_ble_eq_true rfl)) d_MD_groundSends_176 ⟨Nat.zero_le _, Nat.zero_le _⟩) hS (fun H locs hP hS => ?_)
                    exact fl_vret hx hb hr hlocks hP hS (by rw [hG]) d_MD_groundSends_179
                  ·
                    have hG := hG.trans (if_pos h_15)
                    refine lv_aload_n hx hb d_MD_groundSends_158 rfl (lv_at hl 0 rfl) ?_
                    refine gg_MD (k := 28) (v := .int (M.1 0 28)) hx hb hts hown hK hP  (hts _ (List.mem_cons_of_mem _ tw_809)) (by decide) rfl rfl d_MD_groundSends_159 ?_
                    refine lv_if_ne (tgt := 180) hx hb d_MD_groundSends_162 (by decide) (fun h_16 => ?_) (fun h_16 => ?_)
                    ·
                      have hG := hG.trans (if_neg h_16)
                      refine lv_iinc (k := 1) (v := nI (i_123 + 1)) (lv' := [(1, .int (nI (i_123 + 1))), (0, .ref (ad 0))]) hx hb d_MD_groundSends_180 hl rfl (fl_inc _) (by decide) rfl (fun ls hl => ?_)
                      refine lv_goto (tgt := 123) hx hb d_MD_groundSends_183 (by decide) ?_
                      have hl := lv_sub (l' := [(0, .ref (ad 0)), (1, .int (nI (i_123 + 1)))]) hl [1, 0] rfl
                      exact ih_123 (i_123 + 1) ls _ _ (by omega) hl hP hS hG
                    ·
                      have hG := hG.trans (if_pos h_16)
                      refine lv_aload_n hx hb d_MD_groundSends_165 rfl (lv_at hl 0 rfl) ?_
                      refine gg_MD (k := 30) (v := .int (M.1 0 30)) hx hb hts hown hK hP  (hts _ (List.mem_cons_of_mem _ tw_811)) (by decide) rfl rfl d_MD_groundSends_166 ?_
                      refine lv_bipush (v := 7) hx hb d_MD_groundSends_169 (by decide) ?_
                      refine lv_icmp_ge (tgt := 180) hx hb d_MD_groundSends_171 (by decide) (fun h_17 => ?_) (fun h_17 => ?_)
                      ·
                        have hG := hG.trans (if_pos h_17)
                        refine lv_iinc (k := 1) (v := nI (i_123 + 1)) (lv' := [(1, .int (nI (i_123 + 1))), (0, .ref (ad 0))]) hx hb d_MD_groundSends_180 hl rfl (fl_inc _) (by decide) rfl (fun ls hl => ?_)
                        refine lv_goto (tgt := 123) hx hb d_MD_groundSends_183 (by decide) ?_
                        have hl := lv_sub (l' := [(0, .ref (ad 0)), (1, .int (nI (i_123 + 1)))]) hl [1, 0] rfl
                        exact ih_123 (i_123 + 1) ls _ _ (by omega) hl hP hS hG
                      ·
                        have hG := hG.trans (if_neg h_17)
                        refine lv_aload_n hx hb d_MD_groundSends_174 rfl (lv_at hl 0 rfl) ?_
                        refine lv_iload_n hx hb d_MD_groundSends_175 rfl (lv_at hl 1 rfl) ?_
                        refine fl_callv (va_runV (As := [.int (nI i_123)]) (rest := []) ⟨hx, hb, hml, hown, hts⟩ (c_MD_sendDue l hi M (nI i_123) (vp_in_nI (by omega) (by decide)) ((hsz _ (vp_in_nI (by omega) (by decide))).1) ((hsz _ (vp_in_nI (by omega) (by decide))).2) (hn)) (kv_MD_sendDue hts (hts _ (List.mem_cons_of_mem _ tw_1124)) ⟨Nat.le_of_ble_eq_true rfl, Nat.le_of_ble_eq_true rfl⟩) (fl_preV hK hSt hN hS hP (by decide) (kg_MD) rfl) rfl rfl hl.1 rfl (lv_room (Nat.le_of_ble_eq_true rfl)) d_MD_groundSends_176 ⟨Nat.zero_le _, Nat.zero_le _⟩) hS (fun H locs hP hS => ?_)
                        exact fl_vret hx hb hr hlocks hP hS (by rw [hG]) d_MD_groundSends_179
          have hl := lv_sub (l' := [(0, .ref (ad 0)), (1, .int (nI 0))]) hl [1, 0] rfl
          exact lp_123 ((M.1 0 13).toNatClampNeg) 0 ls _ _ (by omega) hl hP hS hG
        | succ k_65 ih_65 =>
          intro  ls H locs hbd hl hP hS hG
          have hG := hG.trans (g_MD_groundSends_L65.eq_2 ..)
          refine lv_iload_n hx hb d_MD_groundSends_65 rfl (lv_at hl 1 rfl) ?_
          refine lv_iconst (v := 1) hx hb d_MD_groundSends_66 (by decide) ?_
          refine lv_icmp_lt (tgt := 121) hx hb d_MD_groundSends_67 (by decide) (fun h_18 => absurd h_18 (fl_nlt (b := 1) rfl (by omega) (by omega))) (fun _ => ?_)
          refine lv_aload_n hx hb d_MD_groundSends_70 rfl (lv_at hl 0 rfl) ?_
          refine gg_MD (k := 29) (v := .int (M.1 0 29)) hx hb hts hown hK hP  (hts _ (List.mem_cons_of_mem _ tw_810)) (by decide) rfl rfl d_MD_groundSends_71 ?_
          refine lv_iload_n hx hb d_MD_groundSends_74 rfl (lv_at hl 1 rfl) ?_
          refine lv_isub hx hb d_MD_groundSends_75 ?_
          refine lv_bipush (v := 15) hx hb d_MD_groundSends_76 (by decide) ?_
          refine lv_iand hx hb d_MD_groundSends_78 ?_
          refine lv_istore_n (lv' := [(2, .int (((M.1 0 29) - (nI ((k_65 + 1) + 0))) &&& 15)), (0, .ref (ad 0)), (1, .int (nI ((k_65 + 1) + 0)))]) hx hb d_MD_groundSends_79 rfl hl (by decide) rfl (fun ls hl => ?_)
          refine lv_aload_n hx hb d_MD_groundSends_80 rfl (lv_at hl 1 rfl) ?_
          refine gg_MD (k := 32) (v := .ref (ad 24)) hx hb hts hown hK hP  (hts _ (List.mem_cons_of_mem _ tw_813)) (by decide) rfl rfl d_MD_groundSends_81 ?_
          refine lv_iload_n hx hb d_MD_groundSends_84 rfl (lv_at hl 0 rfl) ?_
          refine ag_Amarked (v := .int (M.1 24 ((((M.1 0 29) - (nI ((k_65 + 1) + 0))) &&& 15).toNatClampNeg))) hx hb hK hP  (fl_in15 _) rfl d_MD_groundSends_85 ?_
          refine lv_if_eq (tgt := 115) hx hb d_MD_groundSends_86 (by decide) (fun h_19 => ?_) (fun h_19 => ?_)
          ·
            have hG := hG.trans (if_pos h_19)
            refine lv_iinc (k := 2) (v := nI (k_65 + 0)) (lv' := [(1, .int (nI (k_65 + 0))), (2, .int (((M.1 0 29) - (nI ((k_65 + 1) + 0))) &&& 15)), (0, .ref (ad 0))]) hx hb d_MD_groundSends_115 hl rfl (fl_dec (k_65 + 0)) (by decide) rfl (fun ls hl => ?_)
            refine lv_goto (tgt := 65) hx hb d_MD_groundSends_118 (by decide) ?_
            have hl := lv_sub (l' := [(0, .ref (ad 0)), (1, .int (nI (k_65 + 0)))]) hl [2, 0] rfl
            exact ih_65  ls _ _ (by omega) hl hP hS hG
          ·
            have hG := hG.trans (if_neg h_19)
            refine lv_aload_n hx hb d_MD_groundSends_89 rfl (lv_at hl 1 rfl) ?_
            refine gg_MD (k := 32) (v := .ref (ad 24)) hx hb hts hown hK hP  (hts _ (List.mem_cons_of_mem _ tw_813)) (by decide) rfl rfl d_MD_groundSends_90 ?_
            refine lv_iload_n hx hb d_MD_groundSends_93 rfl (lv_at hl 0 rfl) ?_
            refine lv_iconst (v := 0) hx hb d_MD_groundSends_94 (by decide) ?_
            refine sg_Amarked hx hb hK hi hP hS  (rfl) (fl_in15 _) d_MD_groundSends_95 (fun H locs hP hS => ?_)
            refine lv_aload_n hx hb d_MD_groundSends_96 rfl (lv_at hl 1 rfl) ?_
            refine lv_aload_n hx hb d_MD_groundSends_97 rfl (lv_at hl 1 rfl) ?_
            refine gg_MD (k := 1) (v := .int (M.1 0 1)) hx hb hts hown hK hP  (hts _ (List.mem_cons_of_mem _ tw_782)) (by decide) rfl rfl d_MD_groundSends_98 ?_
            refine pg_MD (k := 36) hx hb hts hown hK hi hP hS  (hts _ (List.mem_cons_of_mem _ tw_817)) (by decide) rfl rfl rfl rfl (Nat.le_of_ble_eq_true rfl) rfl d_MD_groundSends_101 (fun H locs hP hS => ?_)
            refine lv_aload_n hx hb d_MD_groundSends_104 rfl (lv_at hl 1 rfl) ?_
            refine lv_aload_n hx hb d_MD_groundSends_105 rfl (lv_at hl 1 rfl) ?_
            refine gg_MD (k := 31) (v := .ref (ad 23)) hx hb hts hown hK hP  (hts _ (List.mem_cons_of_mem _ tw_812)) (by decide) rfl rfl d_MD_groundSends_106 ?_
            refine lv_iload_n hx hb d_MD_groundSends_109 rfl (lv_at hl 0 rfl) ?_
            refine ag_Aframe (v := .long (M.2 23 ((((M.1 0 29) - (nI ((k_65 + 1) + 0))) &&& 15).toNatClampNeg))) hx hb hK hP  (fl_in15 _) rfl d_MD_groundSends_110 ?_
            refine fl_callv (va_runV (As := [.long (M.2 23 ((((M.1 0 29) - (nI ((k_65 + 1) + 0))) &&& 15).toNatClampNeg))]) (rest := []) ⟨hx, hb, hml, hown, hts⟩ (c_MD_sendUp l hi (fl_i (fl_i M 24 ((((M.1 0 29) - (nI ((k_65 + 1) + 0))) &&& 15).toNatClampNeg) 0) 0 36 (M.1 0 1)) (M.2 23 ((((M.1 0 29) - (nI ((k_65 + 1) + 0))) &&& 15).toNatClampNeg))) (kv_MD_sendUp hts (hts _ (List.mem_cons_of_mem _ tw_1120)) ⟨Nat.le_of_ble_eq_true rfl, Nat.le_of_ble_eq_true rfl⟩) (fl_preV hK hSt hN hS hP (by decide) (kg_MD) rfl) rfl rfl hl.1 rfl (lv_room (Nat.le_of_ble_eq_true rfl)) d_MD_groundSends_111 ⟨Nat.zero_le _, Nat.zero_le _⟩) hS (fun H locs hP hS => ?_)
            exact fl_vret hx hb hr hlocks hP hS (by rw [hG]) d_MD_groundSends_114
      rw [show M.1 0 30 = nI ((M.1 0 30).toNatClampNeg + 0) from hu] at hl
      have hl := lv_sub (l' := [(0, .ref (ad 0)), (1, .int (nI (((M.1 0 30).toNatClampNeg) + 0)))]) hl [1, 0] rfl
      exact lp_65 ((M.1 0 30).toNatClampNeg) ls _ _ (by omega) hl hP hS hG
  ·
    have hG := hG.trans (if_neg h_1)
    refine lv_aload_n hx hb d_MD_groundSends_7 rfl (lv_at hl 0 rfl) ?_
    refine lv_iconst (v := 0) hx hb d_MD_groundSends_8 (by decide) ?_
    refine pg_MD (k := 33) hx hb hts hown hK hi hP hS  (hts _ (List.mem_cons_of_mem _ tw_814)) (by decide) rfl rfl (rfl) (rfl) (Nat.le_of_ble_eq_true rfl) rfl d_MD_groundSends_9 (fun H locs hP hS => ?_)
    refine lv_aload_n hx hb d_MD_groundSends_12 rfl (lv_at hl 0 rfl) ?_
    refine lv_aload_n hx hb d_MD_groundSends_13 rfl (lv_at hl 0 rfl) ?_
    refine gg_MD (k := 1) (v := .int ((fl_i M 0 33 0).1 0 1)) hx hb hts hown hK hP  (hts _ (List.mem_cons_of_mem _ tw_782)) (by decide) rfl rfl d_MD_groundSends_14 ?_
    refine pg_MD (k := 36) hx hb hts hown hK hi hP hS  (hts _ (List.mem_cons_of_mem _ tw_817)) (by decide) rfl rfl rfl rfl (Nat.le_of_ble_eq_true rfl) rfl d_MD_groundSends_17 (fun H locs hP hS => ?_)
    refine lv_aload_n hx hb d_MD_groundSends_20 rfl (lv_at hl 0 rfl) ?_
    refine gg_MD (k := 28) (v := .int ((fl_i (fl_i M 0 33 0) 0 36 ((fl_i M 0 33 0).1 0 1)).1 0 28)) hx hb hts hown hK hP  (hts _ (List.mem_cons_of_mem _ tw_809)) (by decide) rfl rfl d_MD_groundSends_21 ?_
    refine lv_iconst (v := 1) hx hb d_MD_groundSends_24 (by decide) ?_
    refine lv_icmp_ne (tgt := 34) hx hb d_MD_groundSends_25 (by decide) (fun h_20 => ?_) (fun h_20 => ?_)
    ·
      have hG := hG.trans (if_neg h_20)
      refine lv_ldc2 (v := 13510798882111488) hx hb hown (hts _ (List.mem_cons_of_mem _ tw_1119)) d_MD_groundSends_34 ?_
      refine lv_aload_n hx hb d_MD_groundSends_37 rfl (lv_at hl 0 rfl) ?_
      refine gg_MD (k := 29) (v := .int ((fl_i (fl_i M 0 33 0) 0 36 ((fl_i M 0 33 0).1 0 1)).1 0 29)) hx hb hts hown hK hP  (hts _ (List.mem_cons_of_mem _ tw_810)) (by decide) rfl rfl d_MD_groundSends_38 ?_
      refine lv_i2l (v := ((fl_i (fl_i M 0 33 0) 0 36 ((fl_i M 0 33 0).1 0 1)).1 0 29).toInt64) hx hb d_MD_groundSends_41 rfl ?_
      refine lv_bipush (v := 48) hx hb d_MD_groundSends_42 (by decide) ?_
      refine lv_lshl (v := j_lshl (((fl_i (fl_i M 0 33 0) 0 36 ((fl_i M 0 33 0).1 0 1)).1 0 29).toInt64) 48) hx hb d_MD_groundSends_44 rfl ?_
      refine lv_lor hx hb d_MD_groundSends_45 ?_
      refine lv_lstore_n (lv' := [(1, .long (13510798882111488 ||| (j_lshl (((fl_i (fl_i M 0 33 0) 0 36 ((fl_i M 0 33 0).1 0 1)).1 0 29).toInt64) 48))), (0, .ref (ad 0))]) hx hb d_MD_groundSends_46 rfl hl (by decide) rfl (fun ls hl => ?_)
      refine lv_aload_n hx hb d_MD_groundSends_47 rfl (lv_at hl 1 rfl) ?_
      refine lv_lload_n hx hb d_MD_groundSends_48 rfl (lv_at hl 0 rfl) ?_
      refine fl_callv (va_runV (As := [.long (13510798882111488 ||| (j_lshl (((fl_i (fl_i M 0 33 0) 0 36 ((fl_i M 0 33 0).1 0 1)).1 0 29).toInt64) 48))]) (rest := []) ⟨hx, hb, hml, hown, hts⟩ (c_MD_sendUp l hi (fl_i (fl_i M 0 33 0) 0 36 ((fl_i M 0 33 0).1 0 1)) (13510798882111488 ||| (j_lshl (((fl_i (fl_i M 0 33 0) 0 36 ((fl_i M 0 33 0).1 0 1)).1 0 29).toInt64) 48))) (kv_MD_sendUp hts (hts _ (List.mem_cons_of_mem _ tw_1120)) ⟨Nat.le_of_ble_eq_true rfl, Nat.le_of_ble_eq_true rfl⟩) (fl_preV hK hSt hN hS hP (by decide) (kg_MD) rfl) rfl rfl hl.1 rfl (lv_room (Nat.le_of_ble_eq_true rfl)) d_MD_groundSends_49 ⟨Nat.zero_le _, Nat.zero_le _⟩) hS (fun H locs hP hS => ?_)
      exact fl_vret hx hb hr hlocks hP hS (by rw [hG]) d_MD_groundSends_52
    ·
      have hG := hG.trans (if_pos h_20)
      refine lv_ldc2 (v := 9007199254740992) hx hb hown (hts _ (List.mem_cons_of_mem _ tw_1118)) d_MD_groundSends_28 ?_
      refine lv_goto (tgt := 46) hx hb d_MD_groundSends_31 (by decide) ?_
      refine lv_lstore_n (lv' := [(1, .long 9007199254740992), (0, .ref (ad 0))]) hx hb d_MD_groundSends_46 rfl hl (by decide) rfl (fun ls hl => ?_)
      refine lv_aload_n hx hb d_MD_groundSends_47 rfl (lv_at hl 1 rfl) ?_
      refine lv_lload_n hx hb d_MD_groundSends_48 rfl (lv_at hl 0 rfl) ?_
      refine fl_callv (va_runV (As := [.long 9007199254740992]) (rest := []) ⟨hx, hb, hml, hown, hts⟩ (c_MD_sendUp l hi (fl_i (fl_i M 0 33 0) 0 36 ((fl_i M 0 33 0).1 0 1)) 9007199254740992) (kv_MD_sendUp hts (hts _ (List.mem_cons_of_mem _ tw_1120)) ⟨Nat.le_of_ble_eq_true rfl, Nat.le_of_ble_eq_true rfl⟩) (fl_preV hK hSt hN hS hP (by decide) (kg_MD) rfl) rfl rfl hl.1 rfl (lv_room (Nat.le_of_ble_eq_true rfl)) d_MD_groundSends_49 ⟨Nat.zero_le _, Nat.zero_le _⟩) hS (fun H locs hP hS => ?_)
      exact fl_vret hx hb hr hlocks hP hS (by rw [hG]) d_MD_groundSends_52
theorem hd_MD_groundSends : y_MD_groundSends.cls ≠ "java/lang/invoke/MethodHandle" ∧ y_MD_groundSends.cls ≠ "java/lang/invoke/VarHandle" ∧ (parseMethodDescriptor y_MD_groundSends.desc).map (fun d => d.parameters.length) = some 0 := by decide +kernel
theorem kv_MD_groundSends {R : Room} {s : State} {args : Array Value} {c0 : Cond} {own : String} {index : Nat} (hts : ∀ w ∈ c0 :: gw, w.before args s = true) (hl : (Cond.methodLink own index y_MD_groundSends).before args s = true) (hR : 4 + 1 ≤ R.frames ∧ 8 + (3 + 11) + 108 ≤ R.locals) : CallW R s args own "FarLinkModel" index y_MD_groundSends b_MD_groundSends 3 none w_MD_groundSends ({ frames := 4, cells := 0, slots := 0, locals := 108 } : Room) 0 0 0 := ⟨callB_of 0 hts (gw_in tw_1117) rfl rfl rfl (hts _ (List.mem_cons_of_mem _ tw_10)) hl hd_MD_groundSends hR, hts _ (List.mem_cons_of_mem _ tw_1116), hts _ (List.mem_cons_of_mem _ ps_MD_groundSends)⟩
def g_MD_put_L55 (M : fl_M) (x1 : Int32) : Nat → Nat → fl_M → fl_M
  | 0, i_55, M1 => (M1)
  | k_55 + 1, i_55, M1 => g_MD_put_L55 M x1 k_55 (i_55 + 1) (fl_i M1 9 (((16 * (M.1 0 13)) + (nI i_55)).toNatClampNeg) (M1.1 8 (((16 * x1) + (nI i_55)).toNatClampNeg)))
def g_MD_put (M : fl_M) (x1 : Int32) (x2 : Int32) (x3 : Int32) (x4 : Int32) : Int32 × fl_M :=
  if (g_MD_outside x1 3) = 0 then (if (g_MD_outside x2 16) = 0 then (if (g_MD_outside x3 3) = 0 then (if (M.1 0 13) = 16 then (((-1), M)) else ((M.1 0 13, (fl_i (fl_i (fl_i (fl_i (fl_i (g_MD_put_L55 M x1 x2.toNatClampNeg 0 (fl_i M 0 13 ((M.1 0 13) + 1))) 10 ((M.1 0 13).toNatClampNeg) x2) 11 ((M.1 0 13).toNatClampNeg) x3) 12 ((M.1 0 13).toNatClampNeg) x4) 15 ((M.1 0 13).toNatClampNeg) ((((1 <<< (x2 &&& 31)) - 1) ||| 65536) ||| 131072)) 20 ((M.1 0 13).toNatClampNeg) 1)))) else (((-1), M))) else (((-1), M))) else (((-1), M))
set_option maxHeartbeats 400000 in
set_option maxRecDepth 100000 in
theorem c_MD_put (l : Launch) {D : va_G} {ad : Nat → Nat} {cA : Nat → ClassId} (hi : fl_inj ad 41) (M : fl_M) (x1 : Int32) (x2 : Int32) (x3 : Int32) (x4 : Int32) (hbg : nn (M.1 0 13)) (hb16 : (M.1 0 13).toNatClampNeg ≤ 16) (hz4 : x4 &&& 1 = x4) : Met l y_MD_put w_MD_put ({ frames := 1, cells := 0, slots := 0, locals := 21 } : Room) (va_Pc [.ref (ad 0), .int x1, .int x2, .int x3, .int x4] (fl_B D cls (yt cA) ([] : fl_L) ([] : fl_FN) ([] : fl_MN) ad (yc ad cA) 41 M)) (va_Qi (fun r M' => r = (g_MD_put M x1 x2 x3 x4).1 ∧ M' = ((g_MD_put M x1 x2 x3 x4).2)) (fl_E D cls ad (yc ad cA) 41) (fl_A ad 41)) 0 0 (fl_A ad 41) := by
  refine Met.ofW (cc := b_MD_put) (maxL := 7) (ret := (some .int)) (by decide) rfl ?_
  intro p e s m args below meth c s₁ B hml hv
  obtain ⟨rfl, hP, hK, hSt, hN⟩ := hv
  have hx := B.exec
  have hb := B.bytes
  have hr := B.returns
  have hts := atoms_spec (ws := w_MD_put) B.pre
  have hown : s.vm.findClass "FarLinkModel" = some m.cls := findClass_of_methodNamed B.named
  have hlocks := B.notSynchronized
  have hS : va_S (fl_A ad 41) s.heap s.heap [] := va_S.rf
  have hl := lv_entry ([.ref (ad 0), .int x1, .int x2, .int x3, .int x4]) (n := 7) (Nat.le_of_ble_eq_true rfl)
  rw [lg_entry_eq]
  generalize (lg_sl ([.ref (ad 0), .int x1, .int x2, .int x3, .int x4]) ++ List.replicate (7 - (lg_sl ([.ref (ad 0), .int x1, .int x2, .int x3, .int x4])).length) Slot.unset).toArray = ls at hl ⊢
  have hl : lv_has ls 7 [(0, .ref (ad 0)), (1, .int x1), (2, .int x2), (3, .int x3), (4, .int x4)] := hl
  have hG := g_MD_put.eq_1 M x1 x2 x3 x4
  refine lv_iload_n hx hb d_MD_put_0 rfl (lv_at hl 1 rfl) ?_
  refine lv_iconst (v := 3) hx hb d_MD_put_1 (by decide) ?_
  refine fl_calli (va_runS (As := [.int x1, .int 3]) (rest := []) ⟨hx, hb, hml, hown, hts⟩ (c_MD_outside l hi M x1 3) (kv_MD_outside hts (hts _ (List.mem_cons_of_mem _ tw_990)) ⟨Nat.le_of_ble_eq_true rfl, Nat.le_of_ble_eq_true rfl⟩) (fl_preS hK hSt hN hS hP) rfl rfl hl.1 rfl (lv_room (Nat.le_of_ble_eq_true rfl)) d_MD_put_2 ⟨Nat.zero_le _, Nat.zero_le _⟩) hS (fun H locs hP hS => ?_)
  refine lv_if_ne (tgt := 34) hx hb d_MD_put_5 (by decide) (fun h_1 => ?_) (fun h_1 => ?_)
  ·
    have hG := hG.trans (if_neg h_1)
    refine lv_iconst (v := -1) hx hb d_MD_put_34 (by decide) ?_
    exact fl_iret hx hb hr hlocks hP hS (congrArg Prod.fst hG).symm (by rw [hG]) d_MD_put_35
  ·
    have hG := hG.trans (if_pos h_1)
    refine lv_iload_n hx hb d_MD_put_8 rfl (lv_at hl 2 rfl) ?_
    refine lv_bipush (v := 16) hx hb d_MD_put_9 (by decide) ?_
    refine fl_calli (va_runS (As := [.int x2, .int 16]) (rest := []) ⟨hx, hb, hml, hown, hts⟩ (c_MD_outside l hi M x2 16) (kv_MD_outside hts (hts _ (List.mem_cons_of_mem _ tw_990)) ⟨Nat.le_of_ble_eq_true rfl, Nat.le_of_ble_eq_true rfl⟩) (fl_preS hK hSt hN hS hP) rfl rfl hl.1 rfl (lv_room (Nat.le_of_ble_eq_true rfl)) d_MD_put_11 ⟨Nat.zero_le _, Nat.zero_le _⟩) hS (fun H locs hP hS => ?_)
    refine lv_if_ne (tgt := 34) hx hb d_MD_put_14 (by decide) (fun h_2 => ?_) (fun h_2 => ?_)
    ·
      have hG := hG.trans (if_neg h_2)
      refine lv_iconst (v := -1) hx hb d_MD_put_34 (by decide) ?_
      exact fl_iret hx hb hr hlocks hP hS (congrArg Prod.fst hG).symm (by rw [hG]) d_MD_put_35
    ·
      have hG := hG.trans (if_pos h_2)
      refine lv_iload_n hx hb d_MD_put_17 rfl (lv_at hl 3 rfl) ?_
      refine lv_iconst (v := 3) hx hb d_MD_put_18 (by decide) ?_
      refine fl_calli (va_runS (As := [.int x3, .int 3]) (rest := []) ⟨hx, hb, hml, hown, hts⟩ (c_MD_outside l hi M x3 3) (kv_MD_outside hts (hts _ (List.mem_cons_of_mem _ tw_990)) ⟨Nat.le_of_ble_eq_true rfl, Nat.le_of_ble_eq_true rfl⟩) (fl_preS hK hSt hN hS hP) rfl rfl hl.1 rfl (lv_room (Nat.le_of_ble_eq_true rfl)) d_MD_put_19 ⟨Nat.zero_le _, Nat.zero_le _⟩) hS (fun H locs hP hS => ?_)
      refine lv_if_ne (tgt := 34) hx hb d_MD_put_22 (by decide) (fun h_3 => ?_) (fun h_3 => ?_)
      ·
        have hG := hG.trans (if_neg h_3)
        refine lv_iconst (v := -1) hx hb d_MD_put_34 (by decide) ?_
        exact fl_iret hx hb hr hlocks hP hS (congrArg Prod.fst hG).symm (by rw [hG]) d_MD_put_35
      ·
        have hG := hG.trans (if_pos h_3)
        refine lv_aload_n hx hb d_MD_put_25 rfl (lv_at hl 0 rfl) ?_
        refine gg_MD (k := 13) (v := .int (M.1 0 13)) hx hb hts hown hK hP  (hts _ (List.mem_cons_of_mem _ tw_794)) (by decide) rfl rfl d_MD_put_26 ?_
        refine lv_bipush (v := 16) hx hb d_MD_put_29 (by decide) ?_
        refine lv_icmp_ne (tgt := 36) hx hb d_MD_put_31 (by decide) (fun h_4 => ?_) (fun h_4 => ?_)
        ·
          have hG := hG.trans (if_neg h_4)
          refine lv_aload_n hx hb d_MD_put_36 rfl (lv_at hl 0 rfl) ?_
          refine gg_MD (k := 13) (v := .int (M.1 0 13)) hx hb hts hown hK hP  (hts _ (List.mem_cons_of_mem _ tw_794)) (by decide) rfl rfl d_MD_put_37 ?_
          refine lv_istore (lv' := [(5, .int (M.1 0 13)), (0, .ref (ad 0)), (1, .int x1), (2, .int x2), (3, .int x3), (4, .int x4)]) hx hb d_MD_put_40 hl (by decide) rfl (fun ls hl => ?_)
          refine lv_aload_n hx hb d_MD_put_42 rfl (lv_at hl 1 rfl) ?_
          refine lv_dup hx hb d_MD_put_43 rfl ?_
          refine gg_MD (k := 13) (v := .int (M.1 0 13)) hx hb hts hown hK hP  (hts _ (List.mem_cons_of_mem _ tw_794)) (by decide) rfl rfl d_MD_put_44 ?_
          refine lv_iconst (v := 1) hx hb d_MD_put_47 (by decide) ?_
          refine lv_iadd hx hb d_MD_put_48 ?_
          refine pg_MD (k := 13) hx hb hts hown hK hi hP hS  (hts _ (List.mem_cons_of_mem _ tw_794)) (by decide) rfl rfl rfl rfl (Nat.le_of_ble_eq_true rfl) rfl d_MD_put_49 (fun H locs hP hS => ?_)
          refine lv_iconst (v := 0) hx hb d_MD_put_52 (by decide) ?_
          refine lv_istore (lv' := [(6, .int 0), (5, .int (M.1 0 13)), (0, .ref (ad 0)), (1, .int x1), (2, .int x2), (3, .int x3), (4, .int x4)]) hx hb d_MD_put_53 hl (by decide) rfl (fun ls hl => ?_)
          have hnx := nn_out (x := x2) (b := 16) (by assumption)
          have hx2l := vp_lt (out_vp (x := x2) (b := 16) (n := 16) rfl (by decide) (by assumption))
          have lp_55 : ∀ (k_55 : Nat) (i_55 : Nat) (M1 : fl_M) (ls : Array Slot) (H : Heap) (locs : List Loc), i_55 + k_55 = x2.toNatClampNeg → lv_has ls 7 [(0, .ref (ad 0)), (1, .int x1), (2, .int x2), (3, .int x3), (4, .int x4), (5, .int (M.1 0 13)), (6, .int (nI i_55))] → va_P D cls (fl_w ad (yc ad cA) 41 M1) H → va_S (fl_A ad 41) s.heap H locs → (∀ (v : fl_M) (ls : Array Slot) (H : Heap) (locs : List Loc), v = g_MD_put_L55 M x1 k_55 i_55 M1 → lv_has ls 7 [(0, .ref (ad 0)), (1, .int x1), (2, .int x2), (3, .int x3), (4, .int x4), (5, .int (M.1 0 13))] → va_P D cls (fl_w ad (yc ad cA) 41 v) H → va_S (fl_A ad 41) s.heap H locs → W p l e (headSpec w_MD_put ({ frames := 1, cells := 0, slots := 0, locals := 21 } : Room)).room s m ([.ref (ad 0), .int x1, .int x2, .int x3, .int x4] : List Value).toArray below meth c H locs 0 0 (MQ below (va_Qi (fun r M' => r = (g_MD_put M x1 x2 x3 x4).1 ∧ M' = ((g_MD_put M x1 x2 x3 x4).2)) (fl_E D cls ad (yc ad cA) 41) (fl_A ad 41)) ([.ref (ad 0), .int x1, .int x2, .int x3, .int x4] : List Value).toArray s 0 0 (fl_A ad 41)) (F0 m 92 ls [])) → W p l e (headSpec w_MD_put ({ frames := 1, cells := 0, slots := 0, locals := 21 } : Room)).room s m ([.ref (ad 0), .int x1, .int x2, .int x3, .int x4] : List Value).toArray below meth c H locs 0 0 (MQ below (va_Qi (fun r M' => r = (g_MD_put M x1 x2 x3 x4).1 ∧ M' = ((g_MD_put M x1 x2 x3 x4).2)) (fl_E D cls ad (yc ad cA) 41) (fl_A ad 41)) ([.ref (ad 0), .int x1, .int x2, .int x3, .int x4] : List Value).toArray s 0 0 (fl_A ad 41)) (F0 m 55 ls []) := by
            intro k_55
            induction k_55 with
            | zero =>
              intro i_55 M1 ls H locs hbd hl hP hS kk
              have hG : g_MD_put_L55 M x1 0 i_55 M1 = _ := g_MD_put_L55.eq_1 ..
              refine lv_iload hx hb d_MD_put_55 (lv_at hl 6 rfl) ?_
              refine lv_iload_n hx hb d_MD_put_57 rfl (lv_at hl 2 rfl) ?_
              refine lv_icmp_ge (tgt := 92) hx hb d_MD_put_58 (by decide) (fun _ => ?_) (fun h_5 => absurd (fl_le (b := x2.toNatClampNeg) hnx (by omega) (by omega)) h_5)
              have hl := lv_sub (l' := [(0, .ref (ad 0)), (1, .int x1), (2, .int x2), (3, .int x3), (4, .int x4), (5, .int (M.1 0 13))]) hl [0, 1, 2, 3, 4, 5] rfl
              exact kk (M1) ls _ _ hG.symm hl hP hS
            | succ k_55 ih_55 =>
              intro i_55 M1 ls H locs hbd hl hP hS kk
              have hG : g_MD_put_L55 M x1 (k_55 + 1) i_55 M1 = _ := g_MD_put_L55.eq_2 ..
              refine lv_iload hx hb d_MD_put_55 (lv_at hl 6 rfl) ?_
              refine lv_iload_n hx hb d_MD_put_57 rfl (lv_at hl 2 rfl) ?_
              refine lv_icmp_ge (tgt := 92) hx hb d_MD_put_58 (by decide) (fun h_6 => absurd h_6 (fl_nle (b := x2.toNatClampNeg) hnx (by omega) (by omega))) (fun _ => ?_)
              refine lv_aload_n hx hb d_MD_put_61 rfl (lv_at hl 0 rfl) ?_
              refine gg_MD (k := 14) (v := .ref (ad 9)) hx hb hts hown hK hP  (hts _ (List.mem_cons_of_mem _ tw_795)) (by decide) rfl rfl d_MD_put_62 ?_
              refine lv_bipush (v := 16) hx hb d_MD_put_65 (by decide) ?_
              refine lv_iload hx hb d_MD_put_67 (lv_at hl 5 rfl) ?_
              refine lv_imul hx hb d_MD_put_69 ?_
              refine lv_iload hx hb d_MD_put_70 (lv_at hl 6 rfl) ?_
              refine lv_iadd hx hb d_MD_put_72 ?_
              refine lv_aload_n hx hb d_MD_put_73 rfl (lv_at hl 0 rfl) ?_
              refine gg_MD (k := 12) (v := .ref (ad 8)) hx hb hts hown hK hP  (hts _ (List.mem_cons_of_mem _ tw_793)) (by decide) rfl rfl d_MD_put_74 ?_
              refine lv_bipush (v := 16) hx hb d_MD_put_77 (by decide) ?_
              refine lv_iload_n hx hb d_MD_put_79 rfl (lv_at hl 1 rfl) ?_
              refine lv_imul hx hb d_MD_put_80 ?_
              refine lv_iload hx hb d_MD_put_81 (lv_at hl 6 rfl) ?_
              refine lv_iadd hx hb d_MD_put_83 ?_
              refine ag_Afile (v := .int (M1.1 8 (((16 * x1) + (nI i_55)).toNatClampNeg))) hx hb hK hP  (in_mul4 (out_vp (b := 3) (n := 3) rfl (by decide) (by assumption)) (vp_in_nI (by omega) (by decide))) rfl d_MD_put_84 ?_
              refine sg_Awords hx hb hK hi hP hS  (in_mul (cnt_ne hbg hb16 (by assumption)) (vp_in_nI (by omega) (by decide))) d_MD_put_85 (fun H locs hP hS => ?_)
              refine lv_iinc (k := 6) (v := nI (i_55 + 1)) (lv' := [(6, .int (nI (i_55 + 1))), (0, .ref (ad 0)), (1, .int x1), (2, .int x2), (3, .int x3), (4, .int x4), (5, .int (M.1 0 13))]) hx hb d_MD_put_86 hl rfl (fl_inc _) (by decide) rfl (fun ls hl => ?_)
              refine lv_goto (tgt := 55) hx hb d_MD_put_89 (by decide) ?_
              have hl := lv_sub (l' := [(0, .ref (ad 0)), (1, .int x1), (2, .int x2), (3, .int x3), (4, .int x4), (5, .int (M.1 0 13)), (6, .int (nI (i_55 + 1)))]) hl [1, 2, 3, 4, 5, 6, 0] rfl
              exact ih_55 (i_55 + 1) (fl_i M1 9 (((16 * (M.1 0 13)) + (nI i_55)).toNatClampNeg) (M1.1 8 (((16 * x1) + (nI i_55)).toNatClampNeg))) ls _ _ (by omega) hl hP hS (fun v ls H locs hv => kk v ls H locs (hv.trans hG.symm))
          have hl := lv_sub (l' := [(0, .ref (ad 0)), (1, .int x1), (2, .int x2), (3, .int x3), (4, .int x4), (5, .int (M.1 0 13)), (6, .int (nI 0))]) hl [2, 3, 4, 5, 6, 1, 0] rfl
          refine lp_55 x2.toNatClampNeg 0 (fl_i M 0 13 ((M.1 0 13) + 1)) ls _ _ (by omega) hl hP hS (fun v ls H locs hv hl hP hS => ?_)
          subst hv
          refine lv_aload_n hx hb d_MD_put_92 rfl (lv_at hl 0 rfl) ?_
          refine gg_MD (k := 15) (v := .ref (ad 10)) hx hb hts hown hK hP  (hts _ (List.mem_cons_of_mem _ tw_796)) (by decide) rfl rfl d_MD_put_93 ?_
          refine lv_iload hx hb d_MD_put_96 (lv_at hl 5 rfl) ?_
          refine lv_iload_n hx hb d_MD_put_98 rfl (lv_at hl 2 rfl) ?_
          refine sg_Asize hx hb hK hi hP hS  (cnt_ne hbg hb16 (by assumption)) d_MD_put_99 (fun H locs hP hS => ?_)
          refine lv_aload_n hx hb d_MD_put_100 rfl (lv_at hl 0 rfl) ?_
          refine gg_MD (k := 16) (v := .ref (ad 11)) hx hb hts hown hK hP  (hts _ (List.mem_cons_of_mem _ tw_797)) (by decide) rfl rfl d_MD_put_101 ?_
          refine lv_iload hx hb d_MD_put_104 (lv_at hl 5 rfl) ?_
          refine lv_iload_n hx hb d_MD_put_106 rfl (lv_at hl 3 rfl) ?_
          refine sg_Atitle hx hb hK hi hP hS  (cnt_ne hbg hb16 (by assumption)) d_MD_put_107 (fun H locs hP hS => ?_)
          refine lv_aload_n hx hb d_MD_put_108 rfl (lv_at hl 0 rfl) ?_
          refine gg_MD (k := 17) (v := .ref (ad 12)) hx hb hts hown hK hP  (hts _ (List.mem_cons_of_mem _ tw_798)) (by decide) rfl rfl d_MD_put_109 ?_
          refine lv_iload hx hb d_MD_put_112 (lv_at hl 5 rfl) ?_
          refine lv_iload hx hb d_MD_put_114 (lv_at hl 4 rfl) ?_
          refine sg_Aloose hx hb hK hi hP hS  (hz4) (cnt_ne hbg hb16 (by assumption)) d_MD_put_116 (fun H locs hP hS => ?_)
          refine lv_aload_n hx hb d_MD_put_117 rfl (lv_at hl 0 rfl) ?_
          refine gg_MD (k := 20) (v := .ref (ad 15)) hx hb hts hown hK hP  (hts _ (List.mem_cons_of_mem _ tw_801)) (by decide) rfl rfl d_MD_put_118 ?_
          refine lv_iload hx hb d_MD_put_121 (lv_at hl 5 rfl) ?_
          refine lv_iconst (v := 1) hx hb d_MD_put_123 (by decide) ?_
          refine lv_iload_n hx hb d_MD_put_124 rfl (lv_at hl 2 rfl) ?_
          refine lv_ishl hx hb d_MD_put_125 ?_
          refine lv_iconst (v := 1) hx hb d_MD_put_126 (by decide) ?_
          refine lv_isub hx hb d_MD_put_127 ?_
          refine lv_ldcw (v := 65536) hx hb hown (hts _ (List.mem_cons_of_mem _ tw_997)) d_MD_put_128 ?_
          refine lv_ior hx hb d_MD_put_131 ?_
          refine lv_ldcw (v := 131072) hx hb hown (hts _ (List.mem_cons_of_mem _ tw_998)) d_MD_put_132 ?_
          refine lv_ior hx hb d_MD_put_135 ?_
          refine sg_Adue hx hb hK hi hP hS  (cnt_ne hbg hb16 (by assumption)) d_MD_put_136 (fun H locs hP hS => ?_)
          refine lv_aload_n hx hb d_MD_put_137 rfl (lv_at hl 0 rfl) ?_
          refine gg_MD (k := 25) (v := .ref (ad 20)) hx hb hts hown hK hP  (hts _ (List.mem_cons_of_mem _ tw_806)) (by decide) rfl rfl d_MD_put_138 ?_
          refine lv_iload hx hb d_MD_put_141 (lv_at hl 5 rfl) ?_
          refine lv_iconst (v := 1) hx hb d_MD_put_143 (by decide) ?_
          refine sg_Atries hx hb hK hi hP hS  (cnt_ne hbg hb16 (by assumption)) d_MD_put_144 (fun H locs hP hS => ?_)
          refine lv_iload hx hb d_MD_put_145 (lv_at hl 5 rfl) ?_
          exact fl_iret hx hb hr hlocks hP hS (congrArg Prod.fst hG).symm (by rw [hG]) d_MD_put_147
        ·
          have hG := hG.trans (if_pos h_4)
          refine lv_iconst (v := -1) hx hb d_MD_put_34 (by decide) ?_
          exact fl_iret hx hb hr hlocks hP hS (congrArg Prod.fst hG).symm (by rw [hG]) d_MD_put_35
theorem hd_MD_put : y_MD_put.cls ≠ "java/lang/invoke/MethodHandle" ∧ y_MD_put.cls ≠ "java/lang/invoke/VarHandle" ∧ (parseMethodDescriptor y_MD_put.desc).map (fun d => d.parameters.length) = some 4 := by decide +kernel
theorem kv_MD_put {R : Room} {s : State} {args : Array Value} {c0 : Cond} {own : String} {index : Nat} (hts : ∀ w ∈ c0 :: gw, w.before args s = true) (hl : (Cond.methodLink own index y_MD_put).before args s = true) (hR : 1 + 1 ≤ R.frames ∧ 8 + (7 + 11) + 21 ≤ R.locals) : CallW R s args own "FarLinkModel" index y_MD_put b_MD_put 7 (some .int) w_MD_put ({ frames := 1, cells := 0, slots := 0, locals := 21 } : Room) 0 0 4 := ⟨callB_of 4 hts (gw_in tw_996) rfl rfl rfl (hts _ (List.mem_cons_of_mem _ tw_10)) hl hd_MD_put hR, hts _ (List.mem_cons_of_mem _ tw_994), hts _ (List.mem_cons_of_mem _ tw_995)⟩
