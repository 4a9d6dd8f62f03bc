/-! contracts of the reference: 35.ycraft -/
def YI (M : fl_M) : Prop := ∀ t : Nat, t < 16 → nn (M.1 31 t) ∧ (M.1 31 t).toNatClampNeg ≤ 16 ∧ vp_in (M.1 30 t) 4
theorem yi_of {M : fl_M} {x : Int32} (h : YI M) (hx : vp_in x 16) : nn (M.1 31 x.toNatClampNeg) ∧ (M.1 31 x.toNatClampNeg).toNatClampNeg ≤ 16 ∧ vp_in (M.1 30 x.toNatClampNeg) 4 := by
  obtain ⟨j, hj, rfl⟩ := vp_in_of hx (by decide)
  rw [nI_clamp (by omega)]
  exact h j hj
theorem tk_in {x : Int32} (h0 : ¬ x < 0) (h : ¬ 15 < x) : vp_in x 16 := by
  obtain ⟨j, hj, rfl⟩ := nI_of h0
  refine vp_in_nI ?_ (by decide)
  rcases Nat.lt_or_ge j 16 with h1 | h1
  · exact h1
  · exact absurd (nI_lt (a := 15) (by omega) hj) h
def g_MD_takes (M : fl_M) (x1 : Int32) (x2 : Int32) (x3 : Int32) (x4 : Int32) : Int32 × fl_M :=
  if x2 = 1 then (if 16 < x3 then ((0, M)) else (if x4 < 0 then ((0, M)) else (if 3 < x4 then ((0, M)) else (if ((j_ishr (M.1 27 x1.toNatClampNeg) 16) &&& 1) = 0 then ((1, (fl_i (fl_i (fl_i (fl_i M 27 x1.toNatClampNeg ((M.1 27 x1.toNatClampNeg) ||| ((1 : Int32) <<< ((16 : Int32) &&& 31)))) 29 x1.toNatClampNeg x3) 30 x1.toNatClampNeg x4) 33 x1.toNatClampNeg 1))) else ((0, M)))))) else (if x2 = 3 then (if 16 < x3 then ((0, M)) else (if ((j_ishr (M.1 27 x1.toNatClampNeg) 17) &&& 1) = 0 then ((1, (fl_i (fl_i (fl_i (fl_i M 27 x1.toNatClampNeg ((M.1 27 x1.toNatClampNeg) ||| ((1 : Int32) <<< ((17 : Int32) &&& 31)))) 31 x1.toNatClampNeg x3) 32 x1.toNatClampNeg x4) 33 x1.toNatClampNeg (M.1 33 x1.toNatClampNeg)))) else ((0, M)))) else (if x2 = 2 then (if 15 < x3 then ((0, M)) else (if ((j_ishr (M.1 27 x1.toNatClampNeg) x3) &&& 1) = 0 then ((1, (fl_i (fl_i (fl_i M 27 x1.toNatClampNeg ((M.1 27 x1.toNatClampNeg) ||| (1 <<< (x3 &&& 31)))) 28 (((16 * x1) + x3).toNatClampNeg) x4) 33 x1.toNatClampNeg 1))) else ((0, M)))) else (if 16 < x3 then ((0, M)) else (if x4 < 0 then ((0, M)) else (if 3 < x4 then ((0, M)) else (if ((j_ishr (M.1 27 x1.toNatClampNeg) x3) &&& 1) = 0 then ((1, (fl_i (fl_i (fl_i (fl_i M 27 x1.toNatClampNeg ((M.1 27 x1.toNatClampNeg) ||| (1 <<< (x3 &&& 31)))) 31 x1.toNatClampNeg x3) 32 x1.toNatClampNeg x4) 33 x1.toNatClampNeg 1))) else ((0, M))))))))
set_option maxHeartbeats 400000 in
set_option maxRecDepth 100000 in
theorem c_MD_takes (l : Launch) {D : va_G} {ad : Nat → Nat} {cA : Nat → ClassId} (hi : fl_inj ad 41) (M : fl_M) (x1 : Int32) (x2 : Int32) (x3 : Int32) (x4 : Int32) (ht : vp_in x1 16) (hp : ¬ x3 < 0) : Met l y_MD_takes w_MD_takes ({ frames := 0, cells := 0, slots := 0, locals := 0 } : Room) (va_Pc [.ref (ad 0), .int x1, .int x2, .int x3, .int x4] (fl_B D cls (yt cA) ([] : fl_L) ([] : fl_FN) ([] : fl_MN) ad (yc ad cA) 41 M)) (va_Qi (fun r M' => r = (g_MD_takes M x1 x2 x3 x4).1 ∧ M' = ((g_MD_takes M x1 x2 x3 x4).2)) (fl_E D cls ad (yc ad cA) 41) (fl_A ad 41)) 0 0 (fl_A ad 41) := by
  refine Met.ofW (cc := b_MD_takes) (maxL := 7) (ret := (some .boolean)) (by decide) rfl ?_
  intro p e s m args below meth c s₁ B hml hv
  obtain ⟨rfl, hP, hK, hSt, hN⟩ := hv
  have hx := B.exec
  have hb := B.bytes
  have hr := B.returns
  have hts := atoms_spec (ws := w_MD_takes) B.pre
  have hown : s.vm.findClass "FarLinkModel" = some m.cls := findClass_of_methodNamed B.named
  have hlocks := B.notSynchronized
  have hS : va_S (fl_A ad 41) s.heap s.heap [] := va_S.rf
  have hl := lv_entry ([.ref (ad 0), .int x1, .int x2, .int x3, .int x4]) (n := 7) (Nat.le_of_ble_eq_true rfl)
  rw [lg_entry_eq]
  generalize (lg_sl ([.ref (ad 0), .int x1, .int x2, .int x3, .int x4]) ++ List.replicate (7 - (lg_sl ([.ref (ad 0), .int x1, .int x2, .int x3, .int x4])).length) Slot.unset).toArray = ls at hl ⊢
  have hl : lv_has ls 7 [(0, .ref (ad 0)), (1, .int x1), (2, .int x2), (3, .int x3), (4, .int x4)] := hl
  have hG := g_MD_takes.eq_1 M x1 x2 x3 x4
  refine lv_iload_n hx hb d_MD_takes_0 rfl (lv_at hl 2 rfl) ?_
  refine lv_iconst (v := 1) hx hb d_MD_takes_1 (by decide) ?_
  refine lv_icmp_ne (tgt := 10) hx hb d_MD_takes_2 (by decide) (fun h_1 => ?_) (fun h_1 => ?_)
  ·
    have hG := hG.trans (if_neg h_1)
    refine lv_iload_n hx hb d_MD_takes_10 rfl (lv_at hl 2 rfl) ?_
    refine lv_iconst (v := 3) hx hb d_MD_takes_11 (by decide) ?_
    refine lv_icmp_ne (tgt := 20) hx hb d_MD_takes_12 (by decide) (fun h_2 => ?_) (fun h_2 => ?_)
    ·
      have hG := hG.trans (if_neg h_2)
      refine lv_iload_n hx hb d_MD_takes_20 rfl (lv_at hl 3 rfl) ?_
      refine lv_istore (lv' := [(5, .int x3), (0, .ref (ad 0)), (1, .int x1), (2, .int x2), (3, .int x3), (4, .int x4)]) hx hb d_MD_takes_21 hl (by decide) rfl (fun ls hl => ?_)
      refine lv_iload_n hx hb d_MD_takes_23 rfl (lv_at hl 3 rfl) ?_
      refine lv_iconst (v := 2) hx hb d_MD_takes_24 (by decide) ?_
      refine lv_icmp_ne (tgt := 42) hx hb d_MD_takes_25 (by decide) (fun h_3 => ?_) (fun h_3 => ?_)
      ·
        have hG := hG.trans (if_neg h_3)
        refine lv_iload_n hx hb d_MD_takes_42 rfl (lv_at hl 4 rfl) ?_
        refine lv_bipush (v := 16) hx hb d_MD_takes_43 (by decide) ?_
        refine lv_icmp_gt (tgt := 68) hx hb d_MD_takes_45 (by decide) (fun h_4 => ?_) (fun h_4 => ?_)
        ·
          have hG := hG.trans (if_pos h_4)
          refine lv_iconst (v := 0) hx hb d_MD_takes_68 (by decide) ?_
          refine lv_istore (lv' := [(6, .int 0), (5, .int x3), (0, .ref (ad 0)), (1, .int x1), (2, .int x2), (3, .int x3), (4, .int x4)]) hx hb d_MD_takes_69 hl (by decide) rfl (fun ls hl => ?_)
          refine lv_iload hx hb d_MD_takes_71 (lv_at hl 0 rfl) ?_
          refine lv_if_eq (tgt := 90) hx hb d_MD_takes_73 (by decide) (fun _ => ?_) (fun h_5 => absurd (by decide) h_5)
          refine lv_iconst (v := 0) hx hb d_MD_takes_90 (by decide) ?_
          exact fl_zret hx hb hr hlocks hP hS (rfl) (congrArg Prod.fst hG).symm (by rw [hG]) d_MD_takes_91
        ·
          have hG := hG.trans (if_neg h_4)
          refine lv_iload_n hx hb d_MD_takes_48 rfl (lv_at hl 3 rfl) ?_
          refine lv_iconst (v := 3) hx hb d_MD_takes_49 (by decide) ?_
          refine lv_icmp_eq (tgt := 64) hx hb d_MD_takes_50 (by decide) (fun h_6 => absurd h_6 (h_2)) (fun _ => ?_)
          refine lv_iload hx hb d_MD_takes_53 (lv_at hl 5 rfl) ?_
          refine lv_if_lt (tgt := 68) hx hb d_MD_takes_55 (by decide) (fun h_7 => ?_) (fun h_7 => ?_)
          ·
            have hG := hG.trans (if_pos h_7)
            refine lv_iconst (v := 0) hx hb d_MD_takes_68 (by decide) ?_
            refine lv_istore (lv' := [(6, .int 0), (5, .int x3), (0, .ref (ad 0)), (1, .int x1), (2, .int x2), (3, .int x3), (4, .int x4)]) hx hb d_MD_takes_69 hl (by decide) rfl (fun ls hl => ?_)
            refine lv_iload hx hb d_MD_takes_71 (lv_at hl 0 rfl) ?_
            refine lv_if_eq (tgt := 90) hx hb d_MD_takes_73 (by decide) (fun _ => ?_) (fun h_8 => absurd (by decide) h_8)
            refine lv_iconst (v := 0) hx hb d_MD_takes_90 (by decide) ?_
            exact fl_zret hx hb hr hlocks hP hS (rfl) (congrArg Prod.fst hG).symm (by rw [hG]) d_MD_takes_91
          ·
            have hG := hG.trans (if_neg h_7)
            refine lv_iload hx hb d_MD_takes_58 (lv_at hl 5 rfl) ?_
            refine lv_iconst (v := 3) hx hb d_MD_takes_60 (by decide) ?_
            refine lv_icmp_gt (tgt := 68) hx hb d_MD_takes_61 (by decide) (fun h_9 => ?_) (fun h_9 => ?_)
            ·
              have hG := hG.trans (if_pos h_9)
              refine lv_iconst (v := 0) hx hb d_MD_takes_68 (by decide) ?_
              refine lv_istore (lv' := [(6, .int 0), (5, .int x3), (0, .ref (ad 0)), (1, .int x1), (2, .int x2), (3, .int x3), (4, .int x4)]) hx hb d_MD_takes_69 hl (by decide) rfl (fun ls hl => ?_)
              refine lv_iload hx hb d_MD_takes_71 (lv_at hl 0 rfl) ?_
              refine lv_if_eq (tgt := 90) hx hb d_MD_takes_73 (by decide) (fun _ => ?_) (fun h_10 => absurd (by decide) h_10)
              refine lv_iconst (v := 0) hx hb d_MD_takes_90 (by decide) ?_
              exact fl_zret hx hb hr hlocks hP hS (rfl) (congrArg Prod.fst hG).symm (by rw [hG]) d_MD_takes_91
            ·
              have hG := hG.trans (if_neg h_9)
              refine lv_iconst (v := 1) hx hb d_MD_takes_64 (by decide) ?_
              refine lv_goto (tgt := 69) hx hb d_MD_takes_65 (by decide) ?_
              refine lv_istore (lv' := [(6, .int 1), (5, .int x3), (0, .ref (ad 0)), (1, .int x1), (2, .int x2), (3, .int x3), (4, .int x4)]) hx hb d_MD_takes_69 hl (by decide) rfl (fun ls hl => ?_)
              refine lv_iload hx hb d_MD_takes_71 (lv_at hl 0 rfl) ?_
              refine lv_if_eq (tgt := 90) hx hb d_MD_takes_73 (by decide) (fun h_11 => absurd h_11 (by decide)) (fun _ => ?_)
              refine lv_aload_n hx hb d_MD_takes_76 rfl (lv_at hl 2 rfl) ?_
              refine gg_MD (k := 43) (v := .ref (ad 27)) hx hb hts hown hK hP  (hts _ (List.mem_cons_of_mem _ tw_824)) (by decide) rfl rfl d_MD_takes_77 ?_
              refine lv_iload_n hx hb d_MD_takes_80 rfl (lv_at hl 3 rfl) ?_
              refine ag_Agot (v := .int (M.1 27 x1.toNatClampNeg)) hx hb hK hP  (by assumption) rfl d_MD_takes_81 ?_
              refine lv_iload hx hb d_MD_takes_82 (lv_at hl 1 rfl) ?_
              refine lj_ishr hx hb d_MD_takes_84 ?_
              refine lv_iconst (v := 1) hx hb d_MD_takes_85 (by decide) ?_
              refine lv_iand hx hb d_MD_takes_86 ?_
              refine lv_if_eq (tgt := 92) hx hb d_MD_takes_87 (by decide) (fun h_12 => ?_) (fun h_12 => ?_)
              ·
                have hG := hG.trans (if_pos h_12)
                refine lv_aload_n hx hb d_MD_takes_92 rfl (lv_at hl 2 rfl) ?_
                refine gg_MD (k := 43) (v := .ref (ad 27)) hx hb hts hown hK hP  (hts _ (List.mem_cons_of_mem _ tw_824)) (by decide) rfl rfl d_MD_takes_93 ?_
                refine lv_iload_n hx hb d_MD_takes_96 rfl (lv_at hl 3 rfl) ?_
                refine lv_aload_n hx hb d_MD_takes_97 rfl (lv_at hl 2 rfl) ?_
                refine gg_MD (k := 43) (v := .ref (ad 27)) hx hb hts hown hK hP  (hts _ (List.mem_cons_of_mem _ tw_824)) (by decide) rfl rfl d_MD_takes_98 ?_
                refine lv_iload_n hx hb d_MD_takes_101 rfl (lv_at hl 3 rfl) ?_
                refine ag_Agot (v := .int (M.1 27 x1.toNatClampNeg)) hx hb hK hP  (by assumption) rfl d_MD_takes_102 ?_
                refine lv_iconst (v := 1) hx hb d_MD_takes_103 (by decide) ?_
                refine lv_iload hx hb d_MD_takes_104 (lv_at hl 1 rfl) ?_
                refine lv_ishl hx hb d_MD_takes_106 ?_
                refine lv_ior hx hb d_MD_takes_107 ?_
                refine sg_Agot hx hb hK hi hP hS  (by assumption) d_MD_takes_108 (fun H locs hP hS => ?_)
                refine lv_iload_n hx hb d_MD_takes_109 rfl (lv_at hl 4 rfl) ?_
                refine lv_iconst (v := 1) hx hb d_MD_takes_110 (by decide) ?_
                refine lv_icmp_ne (tgt := 132) hx hb d_MD_takes_111 (by decide) (fun _ => ?_) (fun h_13 => absurd h_13 (h_1))
                refine lv_iload_n hx hb d_MD_takes_132 rfl (lv_at hl 4 rfl) ?_
                refine lv_iconst (v := 2) hx hb d_MD_takes_133 (by decide) ?_
                refine lv_icmp_ne (tgt := 153) hx hb d_MD_takes_134 (by decide) (fun _ => ?_) (fun h_14 => absurd h_14 (h_3))
                refine lv_aload_n hx hb d_MD_takes_153 rfl (lv_at hl 2 rfl) ?_
                refine gg_MD (k := 47) (v := .ref (ad 31)) hx hb hts hown hK hP  (hts _ (List.mem_cons_of_mem _ tw_828)) (by decide) rfl rfl d_MD_takes_154 ?_
                refine lv_iload_n hx hb d_MD_takes_157 rfl (lv_at hl 3 rfl) ?_
                refine lv_iload_n hx hb d_MD_takes_158 rfl (lv_at hl 5 rfl) ?_
                refine sg_AendLength hx hb hK hi hP hS  (by assumption) d_MD_takes_159 (fun H locs hP hS => ?_)
                refine lv_aload_n hx hb d_MD_takes_160 rfl (lv_at hl 2 rfl) ?_
                refine gg_MD (k := 48) (v := .ref (ad 32)) hx hb hts hown hK hP  (hts _ (List.mem_cons_of_mem _ tw_829)) (by decide) rfl rfl d_MD_takes_161 ?_
                refine lv_iload_n hx hb d_MD_takes_164 rfl (lv_at hl 3 rfl) ?_
                refine lv_iload hx hb d_MD_takes_165 (lv_at hl 6 rfl) ?_
                refine sg_AendSum hx hb hK hi hP hS  (by assumption) d_MD_takes_167 (fun H locs hP hS => ?_)
                refine lv_aload_n hx hb d_MD_takes_168 rfl (lv_at hl 2 rfl) ?_
                refine gg_MD (k := 49) (v := .ref (ad 33)) hx hb hts hown hK hP  (hts _ (List.mem_cons_of_mem _ tw_830)) (by decide) rfl rfl d_MD_takes_169 ?_
                refine lv_iload_n hx hb d_MD_takes_172 rfl (lv_at hl 3 rfl) ?_
                refine lv_iload_n hx hb d_MD_takes_173 rfl (lv_at hl 4 rfl) ?_
                refine lv_iconst (v := 3) hx hb d_MD_takes_174 (by decide) ?_
                refine lv_icmp_ne (tgt := 187) hx hb d_MD_takes_175 (by decide) (fun _ => ?_) (fun h_15 => absurd h_15 (h_2))
                refine lv_iconst (v := 1) hx hb d_MD_takes_187 (by decide) ?_
                refine sg_AcraftTries hx hb hK hi hP hS  (by assumption) d_MD_takes_188 (fun H locs hP hS => ?_)
                refine lv_iconst (v := 1) hx hb d_MD_takes_189 (by decide) ?_
                exact fl_zret hx hb hr hlocks hP hS (rfl) (congrArg Prod.fst hG).symm (by rw [hG]) d_MD_takes_190
              ·
                have hG := hG.trans (if_neg h_12)
                refine lv_iconst (v := 0) hx hb d_MD_takes_90 (by decide) ?_
                exact fl_zret hx hb hr hlocks hP hS (rfl) (congrArg Prod.fst hG).symm (by rw [hG]) d_MD_takes_91
      ·
        have hG := hG.trans (if_pos h_3)
        refine lv_iload_n hx hb d_MD_takes_28 rfl (lv_at hl 4 rfl) ?_
        refine lv_bipush (v := 15) hx hb d_MD_takes_29 (by decide) ?_
        refine lv_icmp_gt (tgt := 38) hx hb d_MD_takes_31 (by decide) (fun h_16 => ?_) (fun h_16 => ?_)
        ·
          have hG := hG.trans (if_pos h_16)
          refine lv_iconst (v := 0) hx hb d_MD_takes_38 (by decide) ?_
          refine lv_goto (tgt := 69) hx hb d_MD_takes_39 (by decide) ?_
          refine lv_istore (lv' := [(6, .int 0), (5, .int x3), (0, .ref (ad 0)), (1, .int x1), (2, .int x2), (3, .int x3), (4, .int x4)]) hx hb d_MD_takes_69 hl (by decide) rfl (fun ls hl => ?_)
          refine lv_iload hx hb d_MD_takes_71 (lv_at hl 0 rfl) ?_
          refine lv_if_eq (tgt := 90) hx hb d_MD_takes_73 (by decide) (fun _ => ?_) (fun h_17 => absurd (by decide) h_17)
          refine lv_iconst (v := 0) hx hb d_MD_takes_90 (by decide) ?_
          exact fl_zret hx hb hr hlocks hP hS (rfl) (congrArg Prod.fst hG).symm (by rw [hG]) d_MD_takes_91
        ·
          have hG := hG.trans (if_neg h_16)
          refine lv_iconst (v := 1) hx hb d_MD_takes_34 (by decide) ?_
          refine lv_goto (tgt := 69) hx hb d_MD_takes_35 (by decide) ?_
          refine lv_istore (lv' := [(6, .int 1), (5, .int x3), (0, .ref (ad 0)), (1, .int x1), (2, .int x2), (3, .int x3), (4, .int x4)]) hx hb d_MD_takes_69 hl (by decide) rfl (fun ls hl => ?_)
          refine lv_iload hx hb d_MD_takes_71 (lv_at hl 0 rfl) ?_
          refine lv_if_eq (tgt := 90) hx hb d_MD_takes_73 (by decide) (fun h_18 => absurd h_18 (by decide)) (fun _ => ?_)
          refine lv_aload_n hx hb d_MD_takes_76 rfl (lv_at hl 2 rfl) ?_
          refine gg_MD (k := 43) (v := .ref (ad 27)) hx hb hts hown hK hP  (hts _ (List.mem_cons_of_mem _ tw_824)) (by decide) rfl rfl d_MD_takes_77 ?_
          refine lv_iload_n hx hb d_MD_takes_80 rfl (lv_at hl 3 rfl) ?_
          refine ag_Agot (v := .int (M.1 27 x1.toNatClampNeg)) hx hb hK hP  (by assumption) rfl d_MD_takes_81 ?_
          refine lv_iload hx hb d_MD_takes_82 (lv_at hl 1 rfl) ?_
          refine lj_ishr hx hb d_MD_takes_84 ?_
          refine lv_iconst (v := 1) hx hb d_MD_takes_85 (by decide) ?_
          refine lv_iand hx hb d_MD_takes_86 ?_
          refine lv_if_eq (tgt := 92) hx hb d_MD_takes_87 (by decide) (fun h_19 => ?_) (fun h_19 => ?_)
          ·
            have hG := hG.trans (if_pos h_19)
            refine lv_aload_n hx hb d_MD_takes_92 rfl (lv_at hl 2 rfl) ?_
            refine gg_MD (k := 43) (v := .ref (ad 27)) hx hb hts hown hK hP  (hts _ (List.mem_cons_of_mem _ tw_824)) (by decide) rfl rfl d_MD_takes_93 ?_
            refine lv_iload_n hx hb d_MD_takes_96 rfl (lv_at hl 3 rfl) ?_
            refine lv_aload_n hx hb d_MD_takes_97 rfl (lv_at hl 2 rfl) ?_
            refine gg_MD (k := 43) (v := .ref (ad 27)) hx hb hts hown hK hP  (hts _ (List.mem_cons_of_mem _ tw_824)) (by decide) rfl rfl d_MD_takes_98 ?_
            refine lv_iload_n hx hb d_MD_takes_101 rfl (lv_at hl 3 rfl) ?_
            refine ag_Agot (v := .int (M.1 27 x1.toNatClampNeg)) hx hb hK hP  (by assumption) rfl d_MD_takes_102 ?_
            refine lv_iconst (v := 1) hx hb d_MD_takes_103 (by decide) ?_
            refine lv_iload hx hb d_MD_takes_104 (lv_at hl 1 rfl) ?_
            refine lv_ishl hx hb d_MD_takes_106 ?_
            refine lv_ior hx hb d_MD_takes_107 ?_
            refine sg_Agot hx hb hK hi hP hS  (by assumption) d_MD_takes_108 (fun H locs hP hS => ?_)
            refine lv_iload_n hx hb d_MD_takes_109 rfl (lv_at hl 4 rfl) ?_
            refine lv_iconst (v := 1) hx hb d_MD_takes_110 (by decide) ?_
            refine lv_icmp_ne (tgt := 132) hx hb d_MD_takes_111 (by decide) (fun _ => ?_) (fun h_20 => absurd h_20 (h_1))
            refine lv_iload_n hx hb d_MD_takes_132 rfl (lv_at hl 4 rfl) ?_
            refine lv_iconst (v := 2) hx hb d_MD_takes_133 (by decide) ?_
            refine lv_icmp_ne (tgt := 153) hx hb d_MD_takes_134 (by decide) (fun h_21 => absurd (h_3) h_21) (fun _ => ?_)
            refine lv_aload_n hx hb d_MD_takes_137 rfl (lv_at hl 2 rfl) ?_
            refine gg_MD (k := 44) (v := .ref (ad 28)) hx hb hts hown hK hP  (hts _ (List.mem_cons_of_mem _ tw_825)) (by decide) rfl rfl d_MD_takes_138 ?_
            refine lv_bipush (v := 16) hx hb d_MD_takes_141 (by decide) ?_
            refine lv_iload_n hx hb d_MD_takes_143 rfl (lv_at hl 3 rfl) ?_
            refine lv_imul hx hb d_MD_takes_144 ?_
            refine lv_iload_n hx hb d_MD_takes_145 rfl (lv_at hl 5 rfl) ?_
            refine lv_iadd hx hb d_MD_takes_146 ?_
            refine lv_iload hx hb d_MD_takes_147 (lv_at hl 6 rfl) ?_
            refine sg_Aword hx hb hK hi hP hS  (in_mul (by assumption) (tk_in hp (by assumption))) d_MD_takes_149 (fun H locs hP hS => ?_)
            refine lv_goto (tgt := 168) hx hb d_MD_takes_150 (by decide) ?_
            refine lv_aload_n hx hb d_MD_takes_168 rfl (lv_at hl 2 rfl) ?_
            refine gg_MD (k := 49) (v := .ref (ad 33)) hx hb hts hown hK hP  (hts _ (List.mem_cons_of_mem _ tw_830)) (by decide) rfl rfl d_MD_takes_169 ?_
            refine lv_iload_n hx hb d_MD_takes_172 rfl (lv_at hl 3 rfl) ?_
            refine lv_iload_n hx hb d_MD_takes_173 rfl (lv_at hl 4 rfl) ?_
            refine lv_iconst (v := 3) hx hb d_MD_takes_174 (by decide) ?_
            refine lv_icmp_ne (tgt := 187) hx hb d_MD_takes_175 (by decide) (fun _ => ?_) (fun h_22 => absurd h_22 (h_2))
            refine lv_iconst (v := 1) hx hb d_MD_takes_187 (by decide) ?_
            refine sg_AcraftTries hx hb hK hi hP hS  (by assumption) d_MD_takes_188 (fun H locs hP hS => ?_)
            refine lv_iconst (v := 1) hx hb d_MD_takes_189 (by decide) ?_
            exact fl_zret hx hb hr hlocks hP hS (rfl) (congrArg Prod.fst hG).symm (by rw [hG]) d_MD_takes_190
          ·
            have hG := hG.trans (if_neg h_19)
            refine lv_iconst (v := 0) hx hb d_MD_takes_90 (by decide) ?_
            exact fl_zret hx hb hr hlocks hP hS (rfl) (congrArg Prod.fst hG).symm (by rw [hG]) d_MD_takes_91
    ·
      have hG := hG.trans (if_pos h_2)
      refine lv_bipush (v := 17) hx hb d_MD_takes_15 (by decide) ?_
      refine lv_goto (tgt := 21) hx hb d_MD_takes_17 (by decide) ?_
      refine lv_istore (lv' := [(5, .int 17), (0, .ref (ad 0)), (1, .int x1), (2, .int x2), (3, .int x3), (4, .int x4)]) hx hb d_MD_takes_21 hl (by decide) rfl (fun ls hl => ?_)
      refine lv_iload_n hx hb d_MD_takes_23 rfl (lv_at hl 3 rfl) ?_
      refine lv_iconst (v := 2) hx hb d_MD_takes_24 (by decide) ?_
      refine lv_icmp_ne (tgt := 42) hx hb d_MD_takes_25 (by decide) (fun _ => ?_) (fun h_23 => absurd h_23 (by rw [h_2]; decide))
      refine lv_iload_n hx hb d_MD_takes_42 rfl (lv_at hl 4 rfl) ?_
      refine lv_bipush (v := 16) hx hb d_MD_takes_43 (by decide) ?_
      refine lv_icmp_gt (tgt := 68) hx hb d_MD_takes_45 (by decide) (fun h_24 => ?_) (fun h_24 => ?_)
      ·
        have hG := hG.trans (if_pos h_24)
        refine lv_iconst (v := 0) hx hb d_MD_takes_68 (by decide) ?_
        refine lv_istore (lv' := [(6, .int 0), (5, .int 17), (0, .ref (ad 0)), (1, .int x1), (2, .int x2), (3, .int x3), (4, .int x4)]) hx hb d_MD_takes_69 hl (by decide) rfl (fun ls hl => ?_)
        refine lv_iload hx hb d_MD_takes_71 (lv_at hl 0 rfl) ?_
        refine lv_if_eq (tgt := 90) hx hb d_MD_takes_73 (by decide) (fun _ => ?_) (fun h_25 => absurd (by decide) h_25)
        refine lv_iconst (v := 0) hx hb d_MD_takes_90 (by decide) ?_
        exact fl_zret hx hb hr hlocks hP hS (rfl) (congrArg Prod.fst hG).symm (by rw [hG]) d_MD_takes_91
      ·
        have hG := hG.trans (if_neg h_24)
        refine lv_iload_n hx hb d_MD_takes_48 rfl (lv_at hl 3 rfl) ?_
        refine lv_iconst (v := 3) hx hb d_MD_takes_49 (by decide) ?_
        refine lv_icmp_eq (tgt := 64) hx hb d_MD_takes_50 (by decide) (fun _ => ?_) (fun h_26 => absurd (h_2) h_26)
        refine lv_iconst (v := 1) hx hb d_MD_takes_64 (by decide) ?_
        refine lv_goto (tgt := 69) hx hb d_MD_takes_65 (by decide) ?_
        refine lv_istore (lv' := [(6, .int 1), (5, .int 17), (0, .ref (ad 0)), (1, .int x1), (2, .int x2), (3, .int x3), (4, .int x4)]) hx hb d_MD_takes_69 hl (by decide) rfl (fun ls hl => ?_)
        refine lv_iload hx hb d_MD_takes_71 (lv_at hl 0 rfl) ?_
        refine lv_if_eq (tgt := 90) hx hb d_MD_takes_73 (by decide) (fun h_27 => absurd h_27 (by decide)) (fun _ => ?_)
        refine lv_aload_n hx hb d_MD_takes_76 rfl (lv_at hl 2 rfl) ?_
        refine gg_MD (k := 43) (v := .ref (ad 27)) hx hb hts hown hK hP  (hts _ (List.mem_cons_of_mem _ tw_824)) (by decide) rfl rfl d_MD_takes_77 ?_
        refine lv_iload_n hx hb d_MD_takes_80 rfl (lv_at hl 3 rfl) ?_
        refine ag_Agot (v := .int (M.1 27 x1.toNatClampNeg)) hx hb hK hP  (by assumption) rfl d_MD_takes_81 ?_
        refine lv_iload hx hb d_MD_takes_82 (lv_at hl 1 rfl) ?_
        refine lj_ishr hx hb d_MD_takes_84 ?_
        refine lv_iconst (v := 1) hx hb d_MD_takes_85 (by decide) ?_
        refine lv_iand hx hb d_MD_takes_86 ?_
        refine lv_if_eq (tgt := 92) hx hb d_MD_takes_87 (by decide) (fun h_28 => ?_) (fun h_28 => ?_)
        ·
          have hG := hG.trans (if_pos h_28)
          refine lv_aload_n hx hb d_MD_takes_92 rfl (lv_at hl 2 rfl) ?_
          refine gg_MD (k := 43) (v := .ref (ad 27)) hx hb hts hown hK hP  (hts _ (List.mem_cons_of_mem _ tw_824)) (by decide) rfl rfl d_MD_takes_93 ?_
          refine lv_iload_n hx hb d_MD_takes_96 rfl (lv_at hl 3 rfl) ?_
          refine lv_aload_n hx hb d_MD_takes_97 rfl (lv_at hl 2 rfl) ?_
          refine gg_MD (k := 43) (v := .ref (ad 27)) hx hb hts hown hK hP  (hts _ (List.mem_cons_of_mem _ tw_824)) (by decide) rfl rfl d_MD_takes_98 ?_
          refine lv_iload_n hx hb d_MD_takes_101 rfl (lv_at hl 3 rfl) ?_
          refine ag_Agot (v := .int (M.1 27 x1.toNatClampNeg)) hx hb hK hP  (by assumption) rfl d_MD_takes_102 ?_
          refine lv_iconst (v := 1) hx hb d_MD_takes_103 (by decide) ?_
          refine lv_iload hx hb d_MD_takes_104 (lv_at hl 1 rfl) ?_
          refine lv_ishl hx hb d_MD_takes_106 ?_
          refine lv_ior hx hb d_MD_takes_107 ?_
          refine sg_Agot hx hb hK hi hP hS  (by assumption) d_MD_takes_108 (fun H locs hP hS => ?_)
          refine lv_iload_n hx hb d_MD_takes_109 rfl (lv_at hl 4 rfl) ?_
          refine lv_iconst (v := 1) hx hb d_MD_takes_110 (by decide) ?_
          refine lv_icmp_ne (tgt := 132) hx hb d_MD_takes_111 (by decide) (fun _ => ?_) (fun h_29 => absurd h_29 (h_1))
          refine lv_iload_n hx hb d_MD_takes_132 rfl (lv_at hl 4 rfl) ?_
          refine lv_iconst (v := 2) hx hb d_MD_takes_133 (by decide) ?_
          refine lv_icmp_ne (tgt := 153) hx hb d_MD_takes_134 (by decide) (fun _ => ?_) (fun h_30 => absurd h_30 (by rw [h_2]; decide))
          refine lv_aload_n hx hb d_MD_takes_153 rfl (lv_at hl 2 rfl) ?_
          refine gg_MD (k := 47) (v := .ref (ad 31)) hx hb hts hown hK hP  (hts _ (List.mem_cons_of_mem _ tw_828)) (by decide) rfl rfl d_MD_takes_154 ?_
          refine lv_iload_n hx hb d_MD_takes_157 rfl (lv_at hl 3 rfl) ?_
          refine lv_iload_n hx hb d_MD_takes_158 rfl (lv_at hl 5 rfl) ?_
          refine sg_AendLength hx hb hK hi hP hS  (by assumption) d_MD_takes_159 (fun H locs hP hS => ?_)
          refine lv_aload_n hx hb d_MD_takes_160 rfl (lv_at hl 2 rfl) ?_
          refine gg_MD (k := 48) (v := .ref (ad 32)) hx hb hts hown hK hP  (hts _ (List.mem_cons_of_mem _ tw_829)) (by decide) rfl rfl d_MD_takes_161 ?_
          refine lv_iload_n hx hb d_MD_takes_164 rfl (lv_at hl 3 rfl) ?_
          refine lv_iload hx hb d_MD_takes_165 (lv_at hl 6 rfl) ?_
          refine sg_AendSum hx hb hK hi hP hS  (by assumption) d_MD_takes_167 (fun H locs hP hS => ?_)
          refine lv_aload_n hx hb d_MD_takes_168 rfl (lv_at hl 2 rfl) ?_
          refine gg_MD (k := 49) (v := .ref (ad 33)) hx hb hts hown hK hP  (hts _ (List.mem_cons_of_mem _ tw_830)) (by decide) rfl rfl d_MD_takes_169 ?_
          refine lv_iload_n hx hb d_MD_takes_172 rfl (lv_at hl 3 rfl) ?_
          refine lv_iload_n hx hb d_MD_takes_173 rfl (lv_at hl 4 rfl) ?_
          refine lv_iconst (v := 3) hx hb d_MD_takes_174 (by decide) ?_
          refine lv_icmp_ne (tgt := 187) hx hb d_MD_takes_175 (by decide) (fun h_31 => absurd (h_2) h_31) (fun _ => ?_)
          refine lv_aload_n hx hb d_MD_takes_178 rfl (lv_at hl 2 rfl) ?_
          refine gg_MD (k := 49) (v := .ref (ad 33)) hx hb hts hown hK hP  (hts _ (List.mem_cons_of_mem _ tw_830)) (by decide) rfl rfl d_MD_takes_179 ?_
          refine lv_iload_n hx hb d_MD_takes_182 rfl (lv_at hl 3 rfl) ?_
          refine ag_AcraftTries (v := .int (M.1 33 x1.toNatClampNeg)) hx hb hK hP  (by assumption) rfl d_MD_takes_183 ?_
          refine lv_goto (tgt := 188) hx hb d_MD_takes_184 (by decide) ?_
          refine sg_AcraftTries hx hb hK hi hP hS  (by assumption) d_MD_takes_188 (fun H locs hP hS => ?_)
          refine lv_iconst (v := 1) hx hb d_MD_takes_189 (by decide) ?_
          exact fl_zret hx hb hr hlocks hP hS (rfl) (congrArg Prod.fst hG).symm (by rw [hG]) d_MD_takes_190
        ·
          have hG := hG.trans (if_neg h_28)
          refine lv_iconst (v := 0) hx hb d_MD_takes_90 (by decide) ?_
          exact fl_zret hx hb hr hlocks hP hS (rfl) (congrArg Prod.fst hG).symm (by rw [hG]) d_MD_takes_91
  ·
    have hG := hG.trans (if_pos h_1)
    refine lv_bipush (v := 16) hx hb d_MD_takes_5 (by decide) ?_
    refine lv_goto (tgt := 21) hx hb d_MD_takes_7 (by decide) ?_
    refine lv_istore (lv' := [(5, .int 16), (0, .ref (ad 0)), (1, .int x1), (2, .int x2), (3, .int x3), (4, .int x4)]) hx hb d_MD_takes_21 hl (by decide) rfl (fun ls hl => ?_)
    refine lv_iload_n hx hb d_MD_takes_23 rfl (lv_at hl 3 rfl) ?_
    refine lv_iconst (v := 2) hx hb d_MD_takes_24 (by decide) ?_
    refine lv_icmp_ne (tgt := 42) hx hb d_MD_takes_25 (by decide) (fun _ => ?_) (fun h_32 => absurd h_32 (by rw [h_1]; decide))
    refine lv_iload_n hx hb d_MD_takes_42 rfl (lv_at hl 4 rfl) ?_
    refine lv_bipush (v := 16) hx hb d_MD_takes_43 (by decide) ?_
    refine lv_icmp_gt (tgt := 68) hx hb d_MD_takes_45 (by decide) (fun h_33 => ?_) (fun h_33 => ?_)
    ·
      have hG := hG.trans (if_pos h_33)
      refine lv_iconst (v := 0) hx hb d_MD_takes_68 (by decide) ?_
      refine lv_istore (lv' := [(6, .int 0), (5, .int 16), (0, .ref (ad 0)), (1, .int x1), (2, .int x2), (3, .int x3), (4, .int x4)]) hx hb d_MD_takes_69 hl (by decide) rfl (fun ls hl => ?_)
      refine lv_iload hx hb d_MD_takes_71 (lv_at hl 0 rfl) ?_
      refine lv_if_eq (tgt := 90) hx hb d_MD_takes_73 (by decide) (fun _ => ?_) (fun h_34 => absurd (by decide) h_34)
      refine lv_iconst (v := 0) hx hb d_MD_takes_90 (by decide) ?_
      exact fl_zret hx hb hr hlocks hP hS (rfl) (congrArg Prod.fst hG).symm (by rw [hG]) d_MD_takes_91
    ·
      have hG := hG.trans (if_neg h_33)
      refine lv_iload_n hx hb d_MD_takes_48 rfl (lv_at hl 3 rfl) ?_
      refine lv_iconst (v := 3) hx hb d_MD_takes_49 (by decide) ?_
      refine lv_icmp_eq (tgt := 64) hx hb d_MD_takes_50 (by decide) (fun h_35 => absurd h_35 (by rw [h_1]; decide)) (fun _ => ?_)
      refine lv_iload hx hb d_MD_takes_53 (lv_at hl 5 rfl) ?_
      refine lv_if_lt (tgt := 68) hx hb d_MD_takes_55 (by decide) (fun h_36 => ?_) (fun h_36 => ?_)
      ·
        have hG := hG.trans (if_pos h_36)
        refine lv_iconst (v := 0) hx hb d_MD_takes_68 (by decide) ?_
        refine lv_istore (lv' := [(6, .int 0), (5, .int 16), (0, .ref (ad 0)), (1, .int x1), (2, .int x2), (3, .int x3), (4, .int x4)]) hx hb d_MD_takes_69 hl (by decide) rfl (fun ls hl => ?_)
        refine lv_iload hx hb d_MD_takes_71 (lv_at hl 0 rfl) ?_
        refine lv_if_eq (tgt := 90) hx hb d_MD_takes_73 (by decide) (fun _ => ?_) (fun h_37 => absurd (by decide) h_37)
        refine lv_iconst (v := 0) hx hb d_MD_takes_90 (by decide) ?_
        exact fl_zret hx hb hr hlocks hP hS (rfl) (congrArg Prod.fst hG).symm (by rw [hG]) d_MD_takes_91
      ·
        have hG := hG.trans (if_neg h_36)
        refine lv_iload hx hb d_MD_takes_58 (lv_at hl 5 rfl) ?_
        refine lv_iconst (v := 3) hx hb d_MD_takes_60 (by decide) ?_
        refine lv_icmp_gt (tgt := 68) hx hb d_MD_takes_61 (by decide) (fun h_38 => ?_) (fun h_38 => ?_)
        ·
          have hG := hG.trans (if_pos h_38)
          refine lv_iconst (v := 0) hx hb d_MD_takes_68 (by decide) ?_
          refine lv_istore (lv' := [(6, .int 0), (5, .int 16), (0, .ref (ad 0)), (1, .int x1), (2, .int x2), (3, .int x3), (4, .int x4)]) hx hb d_MD_takes_69 hl (by decide) rfl (fun ls hl => ?_)
          refine lv_iload hx hb d_MD_takes_71 (lv_at hl 0 rfl) ?_
          refine lv_if_eq (tgt := 90) hx hb d_MD_takes_73 (by decide) (fun _ => ?_) (fun h_39 => absurd (by decide) h_39)
          refine lv_iconst (v := 0) hx hb d_MD_takes_90 (by decide) ?_
          exact fl_zret hx hb hr hlocks hP hS (rfl) (congrArg Prod.fst hG).symm (by rw [hG]) d_MD_takes_91
        ·
          have hG := hG.trans (if_neg h_38)
          refine lv_iconst (v := 1) hx hb d_MD_takes_64 (by decide) ?_
          refine lv_goto (tgt := 69) hx hb d_MD_takes_65 (by decide) ?_
          refine lv_istore (lv' := [(6, .int 1), (5, .int 16), (0, .ref (ad 0)), (1, .int x1), (2, .int x2), (3, .int x3), (4, .int x4)]) hx hb d_MD_takes_69 hl (by decide) rfl (fun ls hl => ?_)
          refine lv_iload hx hb d_MD_takes_71 (lv_at hl 0 rfl) ?_
          refine lv_if_eq (tgt := 90) hx hb d_MD_takes_73 (by decide) (fun h_40 => absurd h_40 (by decide)) (fun _ => ?_)
          refine lv_aload_n hx hb d_MD_takes_76 rfl (lv_at hl 2 rfl) ?_
          refine gg_MD (k := 43) (v := .ref (ad 27)) hx hb hts hown hK hP  (hts _ (List.mem_cons_of_mem _ tw_824)) (by decide) rfl rfl d_MD_takes_77 ?_
          refine lv_iload_n hx hb d_MD_takes_80 rfl (lv_at hl 3 rfl) ?_
          refine ag_Agot (v := .int (M.1 27 x1.toNatClampNeg)) hx hb hK hP  (by assumption) rfl d_MD_takes_81 ?_
          refine lv_iload hx hb d_MD_takes_82 (lv_at hl 1 rfl) ?_
          refine lj_ishr hx hb d_MD_takes_84 ?_
          refine lv_iconst (v := 1) hx hb d_MD_takes_85 (by decide) ?_
          refine lv_iand hx hb d_MD_takes_86 ?_
          refine lv_if_eq (tgt := 92) hx hb d_MD_takes_87 (by decide) (fun h_41 => ?_) (fun h_41 => ?_)
          ·
            have hG := hG.trans (if_pos h_41)
            refine lv_aload_n hx hb d_MD_takes_92 rfl (lv_at hl 2 rfl) ?_
            refine gg_MD (k := 43) (v := .ref (ad 27)) hx hb hts hown hK hP  (hts _ (List.mem_cons_of_mem _ tw_824)) (by decide) rfl rfl d_MD_takes_93 ?_
            refine lv_iload_n hx hb d_MD_takes_96 rfl (lv_at hl 3 rfl) ?_
            refine lv_aload_n hx hb d_MD_takes_97 rfl (lv_at hl 2 rfl) ?_
            refine gg_MD (k := 43) (v := .ref (ad 27)) hx hb hts hown hK hP  (hts _ (List.mem_cons_of_mem _ tw_824)) (by decide) rfl rfl d_MD_takes_98 ?_
            refine lv_iload_n hx hb d_MD_takes_101 rfl (lv_at hl 3 rfl) ?_
            refine ag_Agot (v := .int (M.1 27 x1.toNatClampNeg)) hx hb hK hP  (by assumption) rfl d_MD_takes_102 ?_
            refine lv_iconst (v := 1) hx hb d_MD_takes_103 (by decide) ?_
            refine lv_iload hx hb d_MD_takes_104 (lv_at hl 1 rfl) ?_
            refine lv_ishl hx hb d_MD_takes_106 ?_
            refine lv_ior hx hb d_MD_takes_107 ?_
            refine sg_Agot hx hb hK hi hP hS  (by assumption) d_MD_takes_108 (fun H locs hP hS => ?_)
            refine lv_iload_n hx hb d_MD_takes_109 rfl (lv_at hl 4 rfl) ?_
            refine lv_iconst (v := 1) hx hb d_MD_takes_110 (by decide) ?_
            refine lv_icmp_ne (tgt := 132) hx hb d_MD_takes_111 (by decide) (fun h_42 => absurd (h_1) h_42) (fun _ => ?_)
            refine lv_aload_n hx hb d_MD_takes_114 rfl (lv_at hl 2 rfl) ?_
            refine gg_MD (k := 45) (v := .ref (ad 29)) hx hb hts hown hK hP  (hts _ (List.mem_cons_of_mem _ tw_826)) (by decide) rfl rfl d_MD_takes_115 ?_
            refine lv_iload_n hx hb d_MD_takes_118 rfl (lv_at hl 3 rfl) ?_
            refine lv_iload_n hx hb d_MD_takes_119 rfl (lv_at hl 5 rfl) ?_
            refine sg_AmetaLength hx hb hK hi hP hS  (by assumption) d_MD_takes_120 (fun H locs hP hS => ?_)
            refine lv_aload_n hx hb d_MD_takes_121 rfl (lv_at hl 2 rfl) ?_
            refine gg_MD (k := 46) (v := .ref (ad 30)) hx hb hts hown hK hP  (hts _ (List.mem_cons_of_mem _ tw_827)) (by decide) rfl rfl d_MD_takes_122 ?_
            refine lv_iload_n hx hb d_MD_takes_125 rfl (lv_at hl 3 rfl) ?_
            refine lv_iload hx hb d_MD_takes_126 (lv_at hl 6 rfl) ?_
            refine sg_AmetaName hx hb hK hi hP hS  (by assumption) d_MD_takes_128 (fun H locs hP hS => ?_)
            refine lv_goto (tgt := 168) hx hb d_MD_takes_129 (by decide) ?_
            refine lv_aload_n hx hb d_MD_takes_168 rfl (lv_at hl 2 rfl) ?_
            refine gg_MD (k := 49) (v := .ref (ad 33)) hx hb hts hown hK hP  (hts _ (List.mem_cons_of_mem _ tw_830)) (by decide) rfl rfl d_MD_takes_169 ?_
            refine lv_iload_n hx hb d_MD_takes_172 rfl (lv_at hl 3 rfl) ?_
            refine lv_iload_n hx hb d_MD_takes_173 rfl (lv_at hl 4 rfl) ?_
            refine lv_iconst (v := 3) hx hb d_MD_takes_174 (by decide) ?_
            refine lv_icmp_ne (tgt := 187) hx hb d_MD_takes_175 (by decide) (fun _ => ?_) (fun h_43 => absurd h_43 (by rw [h_1]; decide))
            refine lv_iconst (v := 1) hx hb d_MD_takes_187 (by decide) ?_
            refine sg_AcraftTries hx hb hK hi hP hS  (by assumption) d_MD_takes_188 (fun H locs hP hS => ?_)
            refine lv_iconst (v := 1) hx hb d_MD_takes_189 (by decide) ?_
            exact fl_zret hx hb hr hlocks hP hS (rfl) (congrArg Prod.fst hG).symm (by rw [hG]) d_MD_takes_190
          ·
            have hG := hG.trans (if_neg h_41)
            refine lv_iconst (v := 0) hx hb d_MD_takes_90 (by decide) ?_
            exact fl_zret hx hb hr hlocks hP hS (rfl) (congrArg Prod.fst hG).symm (by rw [hG]) d_MD_takes_91
theorem z_MD_takes (M : fl_M) (x1 : Int32) (x2 : Int32) (x3 : Int32) (x4 : Int32) : (g_MD_takes M x1 x2 x3 x4).1 &&& 1 = (g_MD_takes M x1 x2 x3 x4).1 := by
  unfold g_MD_takes
  repeat (first | split | (show (0 : Int32) &&& 1 = 0; rfl) | (show (1 : Int32) &&& 1 = 1; rfl) | rfl)
theorem hd_MD_takes : y_MD_takes.cls ≠ "java/lang/invoke/MethodHandle" ∧ y_MD_takes.cls ≠ "java/lang/invoke/VarHandle" ∧ (parseMethodDescriptor y_MD_takes.desc).map (fun d => d.parameters.length) = some 4 := by decide +kernel
theorem kv_MD_takes {R : Room} {s : State} {args : Array Value} {c0 : Cond} {own : String} {index : Nat} (hts : ∀ w ∈ c0 :: gw, w.before args s = true) (hl : (Cond.methodLink own index y_MD_takes).before args s = true) (hR : 0 + 1 ≤ R.frames ∧ 8 + (7 + 11) + 0 ≤ R.locals) : CallW R s args own "FarLinkModel" index y_MD_takes b_MD_takes 7 (some .boolean) w_MD_takes ({ frames := 0, cells := 0, slots := 0, locals := 0 } : Room) 0 0 4 := ⟨callB_of 4 hts (gw_in tw_1052) rfl rfl rfl (hts _ (List.mem_cons_of_mem _ tw_10)) hl hd_MD_takes hR, hts _ (List.mem_cons_of_mem _ tw_1051), hts _ (List.mem_cons_of_mem _ ps_MD_takes)⟩
def g_MD_whole_L60 (M : fl_M) (x1 : Int32) (x2 : Int32) : Nat → Nat → Int32 → Int32
  | 0, i_60, sm => (sm)
  | k_60 + 1, i_60, sm => g_MD_whole_L60 M x1 x2 k_60 (i_60 + 1) (sm + (M.1 28 (((16 * x1) + (nI i_60)).toNatClampNeg)))
def g_MD_whole_L153 (M : fl_M) (x1 : Int32) (x2 : Int32) : Nat → Nat → fl_M → fl_M
  | 0, i_153, M1 => (M1)
  | k_153 + 1, i_153, M1 => g_MD_whole_L153 M x1 x2 k_153 (i_153 + 1) (fl_i M1 40 (((16 * (M.1 30 x1.toNatClampNeg)) + (nI i_153)).toNatClampNeg) (M1.1 28 (((16 * x1) + (nI i_153)).toNatClampNeg)))
def g_MD_whole (M : fl_M) (x1 : Int32) (x2 : Int32) : fl_M :=
  if ((j_ishr (M.1 27 x1.toNatClampNeg) 17) &&& 1) = 0 then (M) else (if (g_MD_lacking M x1) = 0 then (if (M.1 29 x1.toNatClampNeg) = (M.1 31 x1.toNatClampNeg) then (if (g_MD_whole_L60 M x1 x2 ((M.1 31 x1.toNatClampNeg).toNatClampNeg) 0 0) = (M.1 32 x1.toNatClampNeg) then ((g_MD_finish (g_MD_whole_L153 M x1 x2 ((M.1 31 x1.toNatClampNeg).toNatClampNeg) 0 (fl_i M 39 ((M.1 30 x1.toNatClampNeg).toNatClampNeg) (M.1 31 x1.toNatClampNeg))) x1 1)) else ((g_MD_finish M x1 2))) else ((g_MD_finish M x1 2))) else (if x2 = 3 then ((fl_i (fl_i (fl_i M 37 x1.toNatClampNeg 1) 34 x1.toNatClampNeg (3 * (M.1 0 1))) 33 x1.toNatClampNeg 1)) else (M)))
set_option maxHeartbeats 400000 in
set_option maxRecDepth 100000 in
theorem c_MD_whole (l : Launch) {D : va_G} {ad : Nat → Nat} {cA : Nat → ClassId} (hi : fl_inj ad 41) (M : fl_M) (x1 : Int32) (x2 : Int32) (ht : vp_in x1 16) (hY : YI M) : Met l y_MD_whole w_MD_whole ({ frames := 1, cells := 0, slots := 0, locals := 22 } : Room) (va_Pc [.ref (ad 0), .int x1, .int x2] (fl_B D cls (yt cA) ([] : fl_L) ([] : fl_FN) ([] : fl_MN) ad (yc ad cA) 41 M)) (va_Qv (fun M' => M' = (g_MD_whole M x1 x2)) (fl_E D cls ad (yc ad cA) 41) (fl_A ad 41)) 0 0 (fl_A ad 41) := by
  refine Met.ofW (cc := b_MD_whole) (maxL := 7) (ret := none) (by decide) rfl ?_
  intro p e s m args below meth c s₁ B hml hv
  obtain ⟨rfl, hP, hK, hSt, hN⟩ := hv
  have hx := B.exec
  have hb := B.bytes
  have hr := B.returns
  have hts := atoms_spec (ws := w_MD_whole) B.pre
  have hown : s.vm.findClass "FarLinkModel" = some m.cls := findClass_of_methodNamed B.named
  have hlocks := B.notSynchronized
  have hS : va_S (fl_A ad 41) s.heap s.heap [] := va_S.rf
  have hl := lv_entry ([.ref (ad 0), .int x1, .int x2]) (n := 7) (Nat.le_of_ble_eq_true rfl)
  rw [lg_entry_eq]
  generalize (lg_sl ([.ref (ad 0), .int x1, .int x2]) ++ List.replicate (7 - (lg_sl ([.ref (ad 0), .int x1, .int x2])).length) Slot.unset).toArray = ls at hl ⊢
  have hl : lv_has ls 7 [(0, .ref (ad 0)), (1, .int x1), (2, .int x2)] := hl
  have hel := (yi_of hY ht).1
  have hel16 := (yi_of hY ht).2.1
  have hmn := (yi_of hY ht).2.2
  have hG := g_MD_whole.eq_1 M x1 x2
  refine lv_aload_n hx hb d_MD_whole_0 rfl (lv_at hl 0 rfl) ?_
  refine gg_MD (k := 43) (v := .ref (ad 27)) hx hb hts hown hK hP  (hts _ (List.mem_cons_of_mem _ tw_824)) (by decide) rfl rfl d_MD_whole_1 ?_
  refine lv_iload_n hx hb d_MD_whole_4 rfl (lv_at hl 1 rfl) ?_
  refine ag_Agot (v := .int (M.1 27 x1.toNatClampNeg)) hx hb hK hP  (by assumption) rfl d_MD_whole_5 ?_
  refine lv_bipush (v := 17) hx hb d_MD_whole_6 (by decide) ?_
  refine lj_ishr hx hb d_MD_whole_8 ?_
  refine lv_iconst (v := 1) hx hb d_MD_whole_9 (by decide) ?_
  refine lv_iand hx hb d_MD_whole_10 ?_
  refine lv_if_ne (tgt := 15) hx hb d_MD_whole_11 (by decide) (fun h_1 => ?_) (fun h_1 => ?_)
  ·
    have hG := hG.trans (if_neg h_1)
    refine lv_aload_n hx hb d_MD_whole_15 rfl (lv_at hl 0 rfl) ?_
    refine lv_iload_n hx hb d_MD_whole_16 rfl (lv_at hl 1 rfl) ?_
    refine fl_calli (va_runV (As := [.int x1]) (rest := []) ⟨hx, hb, hml, hown, hts⟩ (c_MD_lacking l hi M x1 (by assumption)) (kv_MD_lacking hts (hts _ (List.mem_cons_of_mem _ tw_1057)) ⟨Nat.le_of_ble_eq_true rfl, Nat.le_of_ble_eq_true rfl⟩) (fl_preV hK hSt hN hS hP (by decide) (kg_MD) rfl) rfl rfl hl.1 rfl (lv_room (Nat.le_of_ble_eq_true rfl)) d_MD_whole_17 ⟨Nat.zero_le _, Nat.zero_le _⟩) hS (fun H locs hP hS => ?_)
    refine lv_if_eq (tgt := 55) hx hb d_MD_whole_20 (by decide) (fun h_2 => ?_) (fun h_2 => ?_)
    ·
      have hG := hG.trans (if_pos h_2)
      refine lv_iconst (v := 0) hx hb d_MD_whole_55 (by decide) ?_
      refine lv_istore_n (lv' := [(3, .int 0), (0, .ref (ad 0)), (1, .int x1), (2, .int x2)]) hx hb d_MD_whole_56 rfl hl (by decide) rfl (fun ls hl => ?_)
      refine lv_iconst (v := 0) hx hb d_MD_whole_57 (by decide) ?_
      refine lv_istore (lv' := [(4, .int 0), (3, .int 0), (0, .ref (ad 0)), (1, .int x1), (2, .int x2)]) hx hb d_MD_whole_58 hl (by decide) rfl (fun ls hl => ?_)
      have lp_60 : ∀ (k_60 : Nat) (i_60 : Nat) (sm : Int32) (ls : Array Slot) (H : Heap) (locs : List Loc), i_60 + k_60 = (M.1 31 x1.toNatClampNeg).toNatClampNeg → lv_has ls 7 [(0, .ref (ad 0)), (1, .int x1), (3, .int sm), (4, .int (nI i_60))] → va_P D cls (fl_w ad (yc ad cA) 41 M) H → va_S (fl_A ad 41) s.heap H locs → (∀ (v : Int32) (ls : Array Slot) (H : Heap) (locs : List Loc), v = g_MD_whole_L60 M x1 x2 k_60 i_60 sm → lv_has ls 7 [(0, .ref (ad 0)), (1, .int x1), (3, .int v)] → va_P D cls (fl_w ad (yc ad cA) 41 M) H → va_S (fl_A ad 41) s.heap H locs → W p l e (headSpec w_MD_whole ({ frames := 1, cells := 0, slots := 0, locals := 22 } : Room)).room s m ([.ref (ad 0), .int x1, .int x2] : List Value).toArray below meth c H locs 0 0 (MQ below (va_Qv (fun M' => M' = (g_MD_whole M x1 x2)) (fl_E D cls ad (yc ad cA) 41) (fl_A ad 41)) ([.ref (ad 0), .int x1, .int x2] : List Value).toArray s 0 0 (fl_A ad 41)) (F0 m 92 ls [])) → W p l e (headSpec w_MD_whole ({ frames := 1, cells := 0, slots := 0, locals := 22 } : Room)).room s m ([.ref (ad 0), .int x1, .int x2] : List Value).toArray below meth c H locs 0 0 (MQ below (va_Qv (fun M' => M' = (g_MD_whole M x1 x2)) (fl_E D cls ad (yc ad cA) 41) (fl_A ad 41)) ([.ref (ad 0), .int x1, .int x2] : List Value).toArray s 0 0 (fl_A ad 41)) (F0 m 60 ls []) := by
        intro k_60
        induction k_60 with
        | zero =>
          intro i_60 sm ls H locs hbd hl hP hS kk
          have hG : g_MD_whole_L60 M x1 x2 0 i_60 sm = _ := g_MD_whole_L60.eq_1 ..
          refine lv_iload hx hb d_MD_whole_60 (lv_at hl 3 rfl) ?_
          refine lv_aload_n hx hb d_MD_whole_62 rfl (lv_at hl 0 rfl) ?_
          refine gg_MD (k := 47) (v := .ref (ad 31)) hx hb hts hown hK hP  (hts _ (List.mem_cons_of_mem _ tw_828)) (by decide) rfl rfl d_MD_whole_63 ?_
          refine lv_iload_n hx hb d_MD_whole_66 rfl (lv_at hl 1 rfl) ?_
          refine ag_AendLength (v := .int (M.1 31 x1.toNatClampNeg)) hx hb hK hP  (by assumption) rfl d_MD_whole_67 ?_
          refine lv_icmp_ge (tgt := 92) hx hb d_MD_whole_68 (by decide) (fun _ => ?_) (fun h_3 => absurd (fl_le (b := (M.1 31 x1.toNatClampNeg).toNatClampNeg) hel (by omega) (by omega)) h_3)
          have hl := lv_sub (l' := [(0, .ref (ad 0)), (1, .int x1), (3, .int sm)]) hl [0, 1, 2] rfl
          exact kk (sm) ls _ _ hG.symm hl hP hS
        | succ k_60 ih_60 =>
          intro i_60 sm ls H locs hbd hl hP hS kk
          have hG : g_MD_whole_L60 M x1 x2 (k_60 + 1) i_60 sm = _ := g_MD_whole_L60.eq_2 ..
          refine lv_iload hx hb d_MD_whole_60 (lv_at hl 3 rfl) ?_
          refine lv_aload_n hx hb d_MD_whole_62 rfl (lv_at hl 0 rfl) ?_
          refine gg_MD (k := 47) (v := .ref (ad 31)) hx hb hts hown hK hP  (hts _ (List.mem_cons_of_mem _ tw_828)) (by decide) rfl rfl d_MD_whole_63 ?_
          refine lv_iload_n hx hb d_MD_whole_66 rfl (lv_at hl 1 rfl) ?_
          refine ag_AendLength (v := .int (M.1 31 x1.toNatClampNeg)) hx hb hK hP  (by assumption) rfl d_MD_whole_67 ?_
          refine lv_icmp_ge (tgt := 92) hx hb d_MD_whole_68 (by decide) (fun h_4 => absurd h_4 (fl_nle (b := (M.1 31 x1.toNatClampNeg).toNatClampNeg) hel (by omega) (by omega))) (fun _ => ?_)
          refine lv_iload_n hx hb d_MD_whole_71 rfl (lv_at hl 2 rfl) ?_
          refine lv_aload_n hx hb d_MD_whole_72 rfl (lv_at hl 0 rfl) ?_
          refine gg_MD (k := 44) (v := .ref (ad 28)) hx hb hts hown hK hP  (hts _ (List.mem_cons_of_mem _ tw_825)) (by decide) rfl rfl d_MD_whole_73 ?_
          refine lv_bipush (v := 16) hx hb d_MD_whole_76 (by decide) ?_
          refine lv_iload_n hx hb d_MD_whole_78 rfl (lv_at hl 1 rfl) ?_
          refine lv_imul hx hb d_MD_whole_79 ?_
          refine lv_iload hx hb d_MD_whole_80 (lv_at hl 3 rfl) ?_
          refine lv_iadd hx hb d_MD_whole_82 ?_
          refine ag_Aword (v := .int (M.1 28 (((16 * x1) + (nI i_60)).toNatClampNeg))) hx hb hK hP  (in_mul (by assumption) (vp_in_nI (by omega) (by decide))) rfl d_MD_whole_83 ?_
          refine lv_iadd hx hb d_MD_whole_84 ?_
          refine lv_istore_n (lv' := [(3, .int (sm + (M.1 28 (((16 * x1) + (nI i_60)).toNatClampNeg)))), (0, .ref (ad 0)), (1, .int x1), (4, .int (nI i_60))]) hx hb d_MD_whole_85 rfl hl (by decide) rfl (fun ls hl => ?_)
          refine lv_iinc (k := 3) (v := nI (i_60 + 1)) (lv' := [(4, .int (nI (i_60 + 1))), (3, .int (sm + (M.1 28 (((16 * x1) + (nI i_60)).toNatClampNeg)))), (0, .ref (ad 0)), (1, .int x1)]) hx hb d_MD_whole_86 hl rfl (fl_inc _) (by decide) rfl (fun ls hl => ?_)
          refine lv_goto (tgt := 60) hx hb d_MD_whole_89 (by decide) ?_
          have hl := lv_sub (l' := [(0, .ref (ad 0)), (1, .int x1), (3, .int (sm + (M.1 28 (((16 * x1) + (nI i_60)).toNatClampNeg)))), (4, .int (nI (i_60 + 1)))]) hl [2, 3, 1, 0] rfl
          exact ih_60 (i_60 + 1) (sm + (M.1 28 (((16 * x1) + (nI i_60)).toNatClampNeg))) ls _ _ (by omega) hl hP hS (fun v ls H locs hv => kk v ls H locs (hv.trans hG.symm))
      have hl := lv_sub (l' := [(0, .ref (ad 0)), (1, .int x1), (3, .int 0), (4, .int (nI 0))]) hl [2, 3, 1, 0] rfl
      refine lp_60 ((M.1 31 x1.toNatClampNeg).toNatClampNeg) 0 0 ls _ _ (by omega) hl hP hS (fun v ls H locs hv hl hP hS => ?_)
      subst hv
      refine lv_aload_n hx hb d_MD_whole_92 rfl (lv_at hl 0 rfl) ?_
      refine gg_MD (k := 45) (v := .ref (ad 29)) hx hb hts hown hK hP  (hts _ (List.mem_cons_of_mem _ tw_826)) (by decide) rfl rfl d_MD_whole_93 ?_
      refine lv_iload_n hx hb d_MD_whole_96 rfl (lv_at hl 1 rfl) ?_
      refine ag_AmetaLength (v := .int (M.1 29 x1.toNatClampNeg)) hx hb hK hP  (by assumption) rfl d_MD_whole_97 ?_
      refine lv_aload_n hx hb d_MD_whole_98 rfl (lv_at hl 0 rfl) ?_
      refine gg_MD (k := 47) (v := .ref (ad 31)) hx hb hts hown hK hP  (hts _ (List.mem_cons_of_mem _ tw_828)) (by decide) rfl rfl d_MD_whole_99 ?_
      refine lv_iload_n hx hb d_MD_whole_102 rfl (lv_at hl 1 rfl) ?_
      refine ag_AendLength (v := .int (M.1 31 x1.toNatClampNeg)) hx hb hK hP  (by assumption) rfl d_MD_whole_103 ?_
      refine lv_icmp_ne (tgt := 121) hx hb d_MD_whole_104 (by decide) (fun h_5 => ?_) (fun h_5 => ?_)
      ·
        have hG := hG.trans (if_neg h_5)
        refine lv_iconst (v := 0) hx hb d_MD_whole_121 (by decide) ?_
        refine lv_istore (lv' := [(4, .int 0), (0, .ref (ad 0)), (1, .int x1), (3, .int (g_MD_whole_L60 M x1 x2 ((M.1 31 x1.toNatClampNeg).toNatClampNeg) 0 0))]) hx hb d_MD_whole_122 hl (by decide) rfl (fun ls hl => ?_)
        refine lv_iload hx hb d_MD_whole_124 (lv_at hl 0 rfl) ?_
        refine lv_if_eq (tgt := 195) hx hb d_MD_whole_126 (by decide) (fun _ => ?_) (fun h_6 => absurd (by decide) h_6)
        refine lv_aload_n hx hb d_MD_whole_195 rfl (lv_at hl 1 rfl) ?_
        refine lv_iload_n hx hb d_MD_whole_196 rfl (lv_at hl 2 rfl) ?_
        refine lv_iload hx hb d_MD_whole_197 (lv_at hl 0 rfl) ?_
        refine lv_if_eq (tgt := 206) hx hb d_MD_whole_199 (by decide) (fun _ => ?_) (fun h_7 => absurd (by decide) h_7)
        refine lv_iconst (v := 2) hx hb d_MD_whole_206 (by decide) ?_
        refine fl_callv (va_runV (As := [.int x1, .int 2]) (rest := []) ⟨hx, hb, hml, hown, hts⟩ (c_MD_finish l hi M x1 2 (by assumption)) (kv_MD_finish hts (hts _ (List.mem_cons_of_mem _ tw_1045)) ⟨Nat.le_of_ble_eq_true rfl, Nat.le_of_ble_eq_true rfl⟩) (fl_preV hK hSt hN hS hP (by decide) (kg_MD) rfl) rfl rfl hl.1 rfl (lv_room (Nat.le_of_ble_eq_true rfl)) d_MD_whole_207 ⟨Nat.zero_le _, Nat.zero_le _⟩) hS (fun H locs hP hS => ?_)
        exact fl_vret hx hb hr hlocks hP hS (by rw [hG]) d_MD_whole_210
      ·
        have hG := hG.trans (if_pos h_5)
        refine lv_iload_n hx hb d_MD_whole_107 rfl (lv_at hl 2 rfl) ?_
        refine lv_aload_n hx hb d_MD_whole_108 rfl (lv_at hl 0 rfl) ?_
        refine gg_MD (k := 48) (v := .ref (ad 32)) hx hb hts hown hK hP  (hts _ (List.mem_cons_of_mem _ tw_829)) (by decide) rfl rfl d_MD_whole_109 ?_
        refine lv_iload_n hx hb d_MD_whole_112 rfl (lv_at hl 1 rfl) ?_
        refine ag_AendSum (v := .int (M.1 32 x1.toNatClampNeg)) hx hb hK hP  (by assumption) rfl d_MD_whole_113 ?_
        refine lv_icmp_ne (tgt := 121) hx hb d_MD_whole_114 (by decide) (fun h_8 => ?_) (fun h_8 => ?_)
        ·
          have hG := hG.trans (if_neg h_8)
          refine lv_iconst (v := 0) hx hb d_MD_whole_121 (by decide) ?_
          refine lv_istore (lv' := [(4, .int 0), (0, .ref (ad 0)), (1, .int x1), (3, .int (g_MD_whole_L60 M x1 x2 ((M.1 31 x1.toNatClampNeg).toNatClampNeg) 0 0))]) hx hb d_MD_whole_122 hl (by decide) rfl (fun ls hl => ?_)
          refine lv_iload hx hb d_MD_whole_124 (lv_at hl 0 rfl) ?_
          refine lv_if_eq (tgt := 195) hx hb d_MD_whole_126 (by decide) (fun _ => ?_) (fun h_9 => absurd (by decide) h_9)
          refine lv_aload_n hx hb d_MD_whole_195 rfl (lv_at hl 1 rfl) ?_
          refine lv_iload_n hx hb d_MD_whole_196 rfl (lv_at hl 2 rfl) ?_
          refine lv_iload hx hb d_MD_whole_197 (lv_at hl 0 rfl) ?_
          refine lv_if_eq (tgt := 206) hx hb d_MD_whole_199 (by decide) (fun _ => ?_) (fun h_10 => absurd (by decide) h_10)
          refine lv_iconst (v := 2) hx hb d_MD_whole_206 (by decide) ?_
          refine fl_callv (va_runV (As := [.int x1, .int 2]) (rest := []) ⟨hx, hb, hml, hown, hts⟩ (c_MD_finish l hi M x1 2 (by assumption)) (kv_MD_finish hts (hts _ (List.mem_cons_of_mem _ tw_1045)) ⟨Nat.le_of_ble_eq_true rfl, Nat.le_of_ble_eq_true rfl⟩) (fl_preV hK hSt hN hS hP (by decide) (kg_MD) rfl) rfl rfl hl.1 rfl (lv_room (Nat.le_of_ble_eq_true rfl)) d_MD_whole_207 ⟨Nat.zero_le _, Nat.zero_le _⟩) hS (fun H locs hP hS => ?_)
          exact fl_vret hx hb hr hlocks hP hS (by rw [hG]) d_MD_whole_210
        ·
          have hG := hG.trans (if_pos h_8)
          refine lv_iconst (v := 1) hx hb d_MD_whole_117 (by decide) ?_
          refine lv_goto (tgt := 122) hx hb d_MD_whole_118 (by decide) ?_
          refine lv_istore (lv' := [(4, .int 1), (0, .ref (ad 0)), (1, .int x1), (3, .int (g_MD_whole_L60 M x1 x2 ((M.1 31 x1.toNatClampNeg).toNatClampNeg) 0 0))]) hx hb d_MD_whole_122 hl (by decide) rfl (fun ls hl => ?_)
          refine lv_iload hx hb d_MD_whole_124 (lv_at hl 0 rfl) ?_
          refine lv_if_eq (tgt := 195) hx hb d_MD_whole_126 (by decide) (fun h_11 => absurd h_11 (by decide)) (fun _ => ?_)
          refine lv_aload_n hx hb d_MD_whole_129 rfl (lv_at hl 1 rfl) ?_
          refine gg_MD (k := 46) (v := .ref (ad 30)) hx hb hts hown hK hP  (hts _ (List.mem_cons_of_mem _ tw_827)) (by decide) rfl rfl d_MD_whole_130 ?_
          refine lv_iload_n hx hb d_MD_whole_133 rfl (lv_at hl 2 rfl) ?_
          refine ag_AmetaName (v := .int (M.1 30 x1.toNatClampNeg)) hx hb hK hP  (by assumption) rfl d_MD_whole_134 ?_
          refine lv_istore (lv' := [(5, .int (M.1 30 x1.toNatClampNeg)), (4, .int 1), (0, .ref (ad 0)), (1, .int x1), (3, .int (g_MD_whole_L60 M x1 x2 ((M.1 31 x1.toNatClampNeg).toNatClampNeg) 0 0))]) hx hb d_MD_whole_135 hl (by decide) rfl (fun ls hl => ?_)
          refine lv_aload_n hx hb d_MD_whole_137 rfl (lv_at hl 2 rfl) ?_
          refine gg_MD (k := 55) (v := .ref (ad 39)) hx hb hts hown hK hP  (hts _ (List.mem_cons_of_mem _ tw_836)) (by decide) rfl rfl d_MD_whole_138 ?_
          refine lv_iload hx hb d_MD_whole_141 (lv_at hl 0 rfl) ?_
          refine lv_aload_n hx hb d_MD_whole_143 rfl (lv_at hl 2 rfl) ?_
          refine gg_MD (k := 47) (v := .ref (ad 31)) hx hb hts hown hK hP  (hts _ (List.mem_cons_of_mem _ tw_828)) (by decide) rfl rfl d_MD_whole_144 ?_
          refine lv_iload_n hx hb d_MD_whole_147 rfl (lv_at hl 3 rfl) ?_
          refine ag_AendLength (v := .int (M.1 31 x1.toNatClampNeg)) hx hb hK hP  (by assumption) rfl d_MD_whole_148 ?_
          refine sg_AstoreLength hx hb hK hi hP hS  (hmn) d_MD_whole_149 (fun H locs hP hS => ?_)
          refine lv_iconst (v := 0) hx hb d_MD_whole_150 (by decide) ?_
          refine lv_istore (lv' := [(6, .int 0), (5, .int (M.1 30 x1.toNatClampNeg)), (4, .int 1), (0, .ref (ad 0)), (1, .int x1), (3, .int (g_MD_whole_L60 M x1 x2 ((M.1 31 x1.toNatClampNeg).toNatClampNeg) 0 0))]) hx hb d_MD_whole_151 hl (by decide) rfl (fun ls hl => ?_)
          have lp_153 : ∀ (k_153 : Nat) (i_153 : Nat) (M1 : fl_M) (ls : Array Slot) (H : Heap) (locs : List Loc), i_153 + k_153 = (M.1 31 x1.toNatClampNeg).toNatClampNeg → M1.1 31 = M.1 31 → lv_has ls 7 [(0, .ref (ad 0)), (1, .int x1), (4, .int 1), (5, .int (M.1 30 x1.toNatClampNeg)), (6, .int (nI i_153))] → va_P D cls (fl_w ad (yc ad cA) 41 M1) H → va_S (fl_A ad 41) s.heap H locs → (∀ (v : fl_M) (ls : Array Slot) (H : Heap) (locs : List Loc), v = g_MD_whole_L153 M x1 x2 k_153 i_153 M1 → lv_has ls 7 [(0, .ref (ad 0)), (1, .int x1), (4, .int 1), (5, .int (M.1 30 x1.toNatClampNeg))] → va_P D cls (fl_w ad (yc ad cA) 41 v) H → va_S (fl_A ad 41) s.heap H locs → W p l e (headSpec w_MD_whole ({ frames := 1, cells := 0, slots := 0, locals := 22 } : Room)).room s m ([.ref (ad 0), .int x1, .int x2] : List Value).toArray below meth c H locs 0 0 (MQ below (va_Qv (fun M' => M' = (g_MD_whole M x1 x2)) (fl_E D cls ad (yc ad cA) 41) (fl_A ad 41)) ([.ref (ad 0), .int x1, .int x2] : List Value).toArray s 0 0 (fl_A ad 41)) (F0 m 195 ls [])) → W p l e (headSpec w_MD_whole ({ frames := 1, cells := 0, slots := 0, locals := 22 } : Room)).room s m ([.ref (ad 0), .int x1, .int x2] : List Value).toArray below meth c H locs 0 0 (MQ below (va_Qv (fun M' => M' = (g_MD_whole M x1 x2)) (fl_E D cls ad (yc ad cA) 41) (fl_A ad 41)) ([.ref (ad 0), .int x1, .int x2] : List Value).toArray s 0 0 (fl_A ad 41)) (F0 m 153 ls []) := by
            intro k_153
            induction k_153 with
            | zero =>
              intro i_153 M1 ls H locs hbd hI hl hP hS kk
              have hG : g_MD_whole_L153 M x1 x2 0 i_153 M1 = _ := g_MD_whole_L153.eq_1 ..
              refine lv_iload hx hb d_MD_whole_153 (lv_at hl 4 rfl) ?_
              refine lv_aload_n hx hb d_MD_whole_155 rfl (lv_at hl 0 rfl) ?_
              refine gg_MD (k := 47) (v := .ref (ad 31)) hx hb hts hown hK hP  (hts _ (List.mem_cons_of_mem _ tw_828)) (by decide) rfl rfl d_MD_whole_156 ?_
              refine lv_iload_n hx hb d_MD_whole_159 rfl (lv_at hl 1 rfl) ?_
              refine ag_AendLength (v := .int (M1.1 31 x1.toNatClampNeg)) hx hb hK hP  (by assumption) rfl d_MD_whole_160 ?_
              refine lv_icmp_ge (tgt := 195) hx hb d_MD_whole_161 (by decide) (fun _ => ?_) (fun h_12 => absurd (fl_le (b := (M.1 31 x1.toNatClampNeg).toNatClampNeg) ((congrFun hI x1.toNatClampNeg).trans hel) (by omega) (by omega)) h_12)
              have hl := lv_sub (l' := [(0, .ref (ad 0)), (1, .int x1), (4, .int 1), (5, .int (M.1 30 x1.toNatClampNeg))]) hl [0, 1, 2, 3] rfl
              exact kk (M1) ls _ _ hG.symm hl hP hS
            | succ k_153 ih_153 =>
              intro i_153 M1 ls H locs hbd hI hl hP hS kk
              have hG : g_MD_whole_L153 M x1 x2 (k_153 + 1) i_153 M1 = _ := g_MD_whole_L153.eq_2 ..
              refine lv_iload hx hb d_MD_whole_153 (lv_at hl 4 rfl) ?_
              refine lv_aload_n hx hb d_MD_whole_155 rfl (lv_at hl 0 rfl) ?_
              refine gg_MD (k := 47) (v := .ref (ad 31)) hx hb hts hown hK hP  (hts _ (List.mem_cons_of_mem _ tw_828)) (by decide) rfl rfl d_MD_whole_156 ?_
              refine lv_iload_n hx hb d_MD_whole_159 rfl (lv_at hl 1 rfl) ?_
              refine ag_AendLength (v := .int (M1.1 31 x1.toNatClampNeg)) hx hb hK hP  (by assumption) rfl d_MD_whole_160 ?_
              refine lv_icmp_ge (tgt := 195) hx hb d_MD_whole_161 (by decide) (fun h_13 => absurd h_13 (fl_nle (b := (M.1 31 x1.toNatClampNeg).toNatClampNeg) ((congrFun hI x1.toNatClampNeg).trans hel) (by omega) (by omega))) (fun _ => ?_)
              refine lv_aload_n hx hb d_MD_whole_164 rfl (lv_at hl 0 rfl) ?_
              refine gg_MD (k := 56) (v := .ref (ad 40)) hx hb hts hown hK hP  (hts _ (List.mem_cons_of_mem _ tw_837)) (by decide) rfl rfl d_MD_whole_165 ?_
              refine lv_bipush (v := 16) hx hb d_MD_whole_168 (by decide) ?_
              refine lv_iload hx hb d_MD_whole_170 (lv_at hl 3 rfl) ?_
              refine lv_imul hx hb d_MD_whole_172 ?_
              refine lv_iload hx hb d_MD_whole_173 (lv_at hl 4 rfl) ?_
              refine lv_iadd hx hb d_MD_whole_175 ?_
              refine lv_aload_n hx hb d_MD_whole_176 rfl (lv_at hl 0 rfl) ?_
              refine gg_MD (k := 44) (v := .ref (ad 28)) hx hb hts hown hK hP  (hts _ (List.mem_cons_of_mem _ tw_825)) (by decide) rfl rfl d_MD_whole_177 ?_
              refine lv_bipush (v := 16) hx hb d_MD_whole_180 (by decide) ?_
              refine lv_iload_n hx hb d_MD_whole_182 rfl (lv_at hl 1 rfl) ?_
              refine lv_imul hx hb d_MD_whole_183 ?_
              refine lv_iload hx hb d_MD_whole_184 (lv_at hl 4 rfl) ?_
              refine lv_iadd hx hb d_MD_whole_186 ?_
              refine ag_Aword (v := .int (M1.1 28 (((16 * x1) + (nI i_153)).toNatClampNeg))) hx hb hK hP  (in_mul (by assumption) (vp_in_nI (by omega) (by decide))) rfl d_MD_whole_187 ?_
              refine sg_Astore hx hb hK hi hP hS  (in_mul4 (hmn) (vp_in_nI (by omega) (by decide))) d_MD_whole_188 (fun H locs hP hS => ?_)
              refine lv_iinc (k := 4) (v := nI (i_153 + 1)) (lv' := [(6, .int (nI (i_153 + 1))), (0, .ref (ad 0)), (1, .int x1), (4, .int 1), (5, .int (M.1 30 x1.toNatClampNeg))]) hx hb d_MD_whole_189 hl rfl (fl_inc _) (by decide) rfl (fun ls hl => ?_)
              refine lv_goto (tgt := 153) hx hb d_MD_whole_192 (by decide) ?_
              have hl := lv_sub (l' := [(0, .ref (ad 0)), (1, .int x1), (4, .int 1), (5, .int (M.1 30 x1.toNatClampNeg)), (6, .int (nI (i_153 + 1)))]) hl [1, 2, 3, 4, 0] rfl
              exact ih_153 (i_153 + 1) (fl_i M1 40 (((16 * (M.1 30 x1.toNatClampNeg)) + (nI i_153)).toNatClampNeg) (M1.1 28 (((16 * x1) + (nI i_153)).toNatClampNeg))) ls _ _ (by omega) (hI) hl hP hS (fun v ls H locs hv => kk v ls H locs (hv.trans hG.symm))
          have hl := lv_sub (l' := [(0, .ref (ad 0)), (1, .int x1), (4, .int 1), (5, .int (M.1 30 x1.toNatClampNeg)), (6, .int (nI 0))]) hl [3, 4, 2, 1, 0] rfl
          refine lp_153 ((M.1 31 x1.toNatClampNeg).toNatClampNeg) 0 (fl_i M 39 ((M.1 30 x1.toNatClampNeg).toNatClampNeg) (M.1 31 x1.toNatClampNeg)) ls _ _ (by omega) (rfl) hl hP hS (fun v ls H locs hv hl hP hS => ?_)
          subst hv
          refine lv_aload_n hx hb d_MD_whole_195 rfl (lv_at hl 0 rfl) ?_
          refine lv_iload_n hx hb d_MD_whole_196 rfl (lv_at hl 1 rfl) ?_
          refine lv_iload hx hb d_MD_whole_197 (lv_at hl 2 rfl) ?_
          refine lv_if_eq (tgt := 206) hx hb d_MD_whole_199 (by decide) (fun h_14 => absurd h_14 (by decide)) (fun _ => ?_)
          refine lv_iconst (v := 1) hx hb d_MD_whole_202 (by decide) ?_
          refine lv_goto (tgt := 207) hx hb d_MD_whole_203 (by decide) ?_
          refine fl_callv (va_runV (As := [.int x1, .int 1]) (rest := []) ⟨hx, hb, hml, hown, hts⟩ (c_MD_finish l hi (g_MD_whole_L153 M x1 x2 ((M.1 31 x1.toNatClampNeg).toNatClampNeg) 0 (fl_i M 39 ((M.1 30 x1.toNatClampNeg).toNatClampNeg) (M.1 31 x1.toNatClampNeg))) x1 1 (by assumption)) (kv_MD_finish hts (hts _ (List.mem_cons_of_mem _ tw_1045)) ⟨Nat.le_of_ble_eq_true rfl, Nat.le_of_ble_eq_true rfl⟩) (fl_preV hK hSt hN hS hP (by decide) (kg_MD) rfl) rfl rfl hl.1 rfl (lv_room (Nat.le_of_ble_eq_true rfl)) d_MD_whole_207 ⟨Nat.zero_le _, Nat.zero_le _⟩) hS (fun H locs hP hS => ?_)
          exact fl_vret hx hb hr hlocks hP hS (by rw [hG]) d_MD_whole_210
    ·
      have hG := hG.trans (if_neg h_2)
      refine lv_iload_n hx hb d_MD_whole_23 rfl (lv_at hl 2 rfl) ?_
      refine lv_iconst (v := 3) hx hb d_MD_whole_24 (by decide) ?_
      refine lv_icmp_ne (tgt := 54) hx hb d_MD_whole_25 (by decide) (fun h_15 => ?_) (fun h_15 => ?_)
      ·
        have hG := hG.trans (if_neg h_15)
        exact fl_vret hx hb hr hlocks hP hS (by rw [hG]) d_MD_whole_54
      ·
        have hG := hG.trans (if_pos h_15)
        refine lv_aload_n hx hb d_MD_whole_28 rfl (lv_at hl 0 rfl) ?_
        refine gg_MD (k := 53) (v := .ref (ad 37)) hx hb hts hown hK hP  (hts _ (List.mem_cons_of_mem _ tw_834)) (by decide) rfl rfl d_MD_whole_29 ?_
        refine lv_iload_n hx hb d_MD_whole_32 rfl (lv_at hl 1 rfl) ?_
        refine lv_iconst (v := 1) hx hb d_MD_whole_33 (by decide) ?_
        refine sg_AoweLack hx hb hK hi hP hS  (rfl) (by assumption) d_MD_whole_34 (fun H locs hP hS => ?_)
        refine lv_aload_n hx hb d_MD_whole_35 rfl (lv_at hl 0 rfl) ?_
        refine gg_MD (k := 50) (v := .ref (ad 34)) hx hb hts hown hK hP  (hts _ (List.mem_cons_of_mem _ tw_831)) (by decide) rfl rfl d_MD_whole_36 ?_
        refine lv_iload_n hx hb d_MD_whole_39 rfl (lv_at hl 1 rfl) ?_
        refine lv_iconst (v := 3) hx hb d_MD_whole_40 (by decide) ?_
        refine lv_aload_n hx hb d_MD_whole_41 rfl (lv_at hl 0 rfl) ?_
        refine gg_MD (k := 1) (v := .int (M.1 0 1)) hx hb hts hown hK hP  (hts _ (List.mem_cons_of_mem _ tw_782)) (by decide) rfl rfl d_MD_whole_42 ?_
        refine lv_imul hx hb d_MD_whole_45 ?_
        refine sg_AcraftClock hx hb hK hi hP hS  (by assumption) d_MD_whole_46 (fun H locs hP hS => ?_)
        refine lv_aload_n hx hb d_MD_whole_47 rfl (lv_at hl 0 rfl) ?_
        refine gg_MD (k := 49) (v := .ref (ad 33)) hx hb hts hown hK hP  (hts _ (List.mem_cons_of_mem _ tw_830)) (by decide) rfl rfl d_MD_whole_48 ?_
        refine lv_iload_n hx hb d_MD_whole_51 rfl (lv_at hl 1 rfl) ?_
        refine lv_iconst (v := 1) hx hb d_MD_whole_52 (by decide) ?_
        refine sg_AcraftTries hx hb hK hi hP hS  (by assumption) d_MD_whole_53 (fun H locs hP hS => ?_)
        exact fl_vret hx hb hr hlocks hP hS (by rw [hG]) d_MD_whole_54
  ·
    have hG := hG.trans (if_pos h_1)
    exact fl_vret hx hb hr hlocks hP hS (by rw [hG]) d_MD_whole_14
theorem hd_MD_whole : y_MD_whole.cls ≠ "java/lang/invoke/MethodHandle" ∧ y_MD_whole.cls ≠ "java/lang/invoke/VarHandle" ∧ (parseMethodDescriptor y_MD_whole.desc).map (fun d => d.parameters.length) = some 2 := by decide +kernel
theorem kv_MD_whole {R : Room} {s : State} {args : Array Value} {c0 : Cond} {own : String} {index : Nat} (hts : ∀ w ∈ c0 :: gw, w.before args s = true) (hl : (Cond.methodLink own index y_MD_whole).before args s = true) (hR : 1 + 1 ≤ R.frames ∧ 8 + (7 + 11) + 22 ≤ R.locals) : CallW R s args own "FarLinkModel" index y_MD_whole b_MD_whole 7 none w_MD_whole ({ frames := 1, cells := 0, slots := 0, locals := 22 } : Room) 0 0 2 := ⟨callB_of 2 hts (gw_in tw_1056) rfl rfl rfl (hts _ (List.mem_cons_of_mem _ tw_10)) hl hd_MD_whole hR, hts _ (List.mem_cons_of_mem _ tw_1055), hts _ (List.mem_cons_of_mem _ ps_MD_whole)⟩
