/-! contracts: 15.sum -/
/-- a cell that is an array of 16 ints -/
def is_I16 (q : Nat) : Prop := q < 88 ∧ ∀ (ad : Nat → Nat) (cA : Nat → ClassId) (f : Nat → Int32) (g : Nat → Int64), xc ad cA q f g = .inl (cA 0, 16, .inl f)
theorem is_I16_CR {q : Nat} (h : is_CR q) : is_I16 (q + 1) := ⟨lt_CR1 h, fun _ _ _ _ => kw_CRw h⟩
theorem is_I16_TR {q : Nat} (h : is_TR q) : is_I16 (q + 1) := ⟨lt_TR1 h, fun _ _ _ _ => kw_TRw h⟩
section XI
variable {p : Program} {l : Launch} {e : Env} {R : Room} {s : State} {m : MethodId} {args : Array Value} {below : List Frame} {meth : Method} {c : Code} {H : Heap} {locs : List Loc} {cells slots : Nat} {Q : State → Prop}
variable {cc : ByteArray} {pc : Nat} {ls : Array Slot} {rest : List Value} {D : va_G} {ad : Nat → Nat} {cA : Nat → ClassId} {M : fl_M} {q : Nat} {fv : Nat → Int32}
theorem ag_I16 {v : Value} (hexec : p.tables.exec = Jvm.exec) (hb : c.code = cc) (hK : va_K D cls (xt cA) s) (hP : va_P D cls (fl_w ad (xc ad cA) 88 M) H) (hq : is_I16 q ∧ M.1 q = fv) {i : Int32} (hin : vp_in i 16) (hv : .int (fv i.toNatClampNeg) = v) (hdg : decode cc pc = .ok (.iaload, 1)) (kk : W p l e R s m args below meth c H locs cells slots Q (F0 m (pc + 1) ls (v :: rest))) : W p l e R s m args below meth c H locs cells slots Q (F0 m pc ls (.int i :: .ref (ad q) :: rest)) :=
  fl_iald hexec hb hK hP hq.1.1 0 (hq.1.2 ..) rfl hin hdg (by rw [hq.2, hv]; exact kk)
theorem lg_I16 (hexec : p.tables.exec = Jvm.exec) (hb : c.code = cc) (hK : va_K D cls (xt cA) s) (hP : va_P D cls (fl_w ad (xc ad cA) 88 M) H) (hq : is_I16 q ∧ M.1 q = fv) (hdg : decode cc pc = .ok (.arraylength, 1)) (kk : W p l e R s m args below meth c H locs cells slots Q (F0 m (pc + 1) ls (.int 16 :: rest))) : W p l e R s m args below meth c H locs cells slots Q (F0 m pc ls (.ref (ad q) :: rest)) :=
  fl_alen hexec hb hK hP hq.1.1 0 (hq.1.2 ..) rfl rfl hdg kk
end XI
theorem below_iff {x b : Int32} (h : ¬ g_FL_isBelow x b = 0) : ¬ x < 0 ∧ x < b := by
  by_cases h1 : x < 0
  · exact absurd (by unfold g_FL_isBelow; rw [if_pos h1]) h
  · by_cases h2 : b ≤ x
    · exact absurd (by unfold g_FL_isBelow; rw [if_neg h1, if_pos h2]) h
    · exact ⟨h1, Int32.not_le.mp h2⟩
theorem below_vp {x : Int32} {b : Nat} (hb : b < 2 ^ 31) (h : ¬ g_FL_isBelow x (nI b) = 0) : vp_in x b := by
  obtain ⟨h1, h2⟩ := below_iff h
  obtain ⟨j, hj, rfl⟩ := nI_of h1
  exact vp_in_nI ((nI_ltI hj hb).mp h2) hb
theorem below_in16 {x : Int32} (h : ¬ g_FL_isBelow x 16 = 0) : vp_in x 16 := below_vp (b := 16) (by decide) h
theorem below_in4 {x : Int32} (h : ¬ g_FL_isBelow x 4 = 0) : vp_in x 4 := below_vp (b := 4) (by decide) h
def g_FL_sumBelow_L4 (fv : Nat → Int32) (x1 : Int32) : Nat → Nat → Int32 → Int32
  | 0, i_4, sm => if x1 ≤ (nI i_4) then ((sm)) else ((sm))
  | k_4 + 1, i_4, sm => if x1 ≤ (nI i_4) then ((sm)) else (g_FL_sumBelow_L4 fv x1 k_4 (i_4 + 1) (sm + (fv (nI i_4).toNatClampNeg)))
def g_FL_sumBelow (fv : Nat → Int32) (x1 : Int32) : Int32 :=
  (g_FL_sumBelow_L4 fv x1 16 0 0)
set_option maxHeartbeats 4000000 in
set_option maxRecDepth 100000 in
theorem c_FL_sumBelow (l : Launch) {D : va_G} {ad : Nat → Nat} {cA : Nat → ClassId} {st : Nat → Nat} (hi : fl_inj ad 88) (fv : Nat → Int32) (M : fl_M) (x1 : Int32) {qa : Nat} (ha : is_I16 qa ∧ M.1 qa = fv) : Met l y_FL_sumBelow w_FL_sumBelow ({ frames := 0, cells := 0, slots := 0, locals := 0 } : Room) (va_Pc [.int x1, .ref (ad qa)] (fl_B D cls (xt cA) (xSL st) xFN xMN ad (xc ad cA) 88 M)) (va_Qi (fun r M' => r = (g_FL_sumBelow fv x1) ∧ M' = M) (fl_E D cls ad (xc ad cA) 88) (fl_A ad 88)) 0 0 (fl_A ad 88) := by
  refine Met.ofW (cc := b_FL_sumBelow) (maxL := 4) (ret := (some .int)) (by decide) rfl ?_
  intro p e s m args below meth c s₁ B hml hv
  obtain ⟨rfl, hP, hK, hSt, hN⟩ := hv
  have hx := B.exec
  have hb := B.bytes
  have hr := B.returns
  have hts := atoms_spec (ws := w_FL_sumBelow) B.pre
  have hown : s.vm.findClass "FarLink" = some m.cls := findClass_of_methodNamed B.named
  have hlocks := B.notSynchronized
  have hS : va_S (fl_A ad 88) s.heap s.heap [] := va_S.rf
  have hl := lv_entry ([.int x1, .ref (ad qa)]) (n := 4) (Nat.le_of_ble_eq_true rfl)
  rw [lg_entry_eq]
  generalize (lg_sl ([.int x1, .ref (ad qa)]) ++ List.replicate (4 - (lg_sl ([.int x1, .ref (ad qa)])).length) Slot.unset).toArray = ls at hl ⊢
  have hl : lv_has ls 4 [(0, .int x1), (1, .ref (ad qa))] := hl
  have hG := g_FL_sumBelow.eq_1 fv x1
  refine lv_iconst (v := 0) hx hb d_FL_sumBelow_0 (by decide) ?_
  refine lv_istore_n (lv' := [(2, .int 0), (0, .int x1), (1, .ref (ad qa))]) hx hb d_FL_sumBelow_1 rfl hl (by decide) rfl (fun ls hl => ?_)
  refine lv_iconst (v := 0) hx hb d_FL_sumBelow_2 (by decide) ?_
  refine lv_istore_n (lv' := [(3, .int 0), (2, .int 0), (0, .int x1), (1, .ref (ad qa))]) hx hb d_FL_sumBelow_3 rfl hl (by decide) rfl (fun ls hl => ?_)
  have lp_4 : ∀ (k_4 : Nat) (i_4 : Nat) (sm : Int32) (ls : Array Slot) (H : Heap) (locs : List Loc), i_4 + k_4 = 16 → lv_has ls 4 [(0, .int x1), (1, .ref (ad qa)), (2, .int sm), (3, .int (nI i_4))] → va_P D cls (fl_w ad (xc ad cA) 88 M) H → va_S (fl_A ad 88) s.heap H locs → (∀ (v : Int32) (ls : Array Slot) (H : Heap) (locs : List Loc), v = g_FL_sumBelow_L4 fv x1 k_4 i_4 sm → lv_has ls 4 [(0, .int x1), (1, .ref (ad qa)), (2, .int v)] → va_P D cls (fl_w ad (xc ad cA) 88 M) H → va_S (fl_A ad 88) s.heap H locs → W p l e (headSpec w_FL_sumBelow ({ frames := 0, cells := 0, slots := 0, locals := 0 } : Room)).room s m ([.int x1, .ref (ad qa)] : List Value).toArray below meth c H locs 0 0 (MQ below (va_Qi (fun r M' => r = (g_FL_sumBelow fv x1) ∧ M' = M) (fl_E D cls ad (xc ad cA) 88) (fl_A ad 88)) ([.int x1, .ref (ad qa)] : List Value).toArray s 0 0 (fl_A ad 88)) (F0 m 27 ls [])) → W p l e (headSpec w_FL_sumBelow ({ frames := 0, cells := 0, slots := 0, locals := 0 } : Room)).room s m ([.int x1, .ref (ad qa)] : List Value).toArray below meth c H locs 0 0 (MQ below (va_Qi (fun r M' => r = (g_FL_sumBelow fv x1) ∧ M' = M) (fl_E D cls ad (xc ad cA) 88) (fl_A ad 88)) ([.int x1, .ref (ad qa)] : List Value).toArray s 0 0 (fl_A ad 88)) (F0 m 4 ls []) := by
    intro k_4
    induction k_4 with
    | zero =>
      intro i_4 sm ls H locs hbd hl hP hS kk
      have hG : g_FL_sumBelow_L4 fv x1 0 i_4 sm = _ := g_FL_sumBelow_L4.eq_1 ..
      refine lv_iload_n hx hb d_FL_sumBelow_4 rfl (lv_at hl 3 rfl) ?_
      refine lv_iload_n hx hb d_FL_sumBelow_5 rfl (lv_at hl 0 rfl) ?_
      refine lv_icmp_ge (tgt := 27) hx hb d_FL_sumBelow_6 (by decide) (fun h_1 => ?_) (fun h_1 => ?_)
      ·
        have hG := hG.trans (if_pos h_1)
        have hl := lv_sub (l' := [(0, .int x1), (1, .ref (ad qa)), (2, .int sm)]) hl [0, 1, 2] rfl
        exact kk (sm) ls _ _ hG.symm hl hP hS
      ·
        have hG := hG.trans (if_neg h_1)
        refine lv_iload_n hx hb d_FL_sumBelow_9 rfl (lv_at hl 3 rfl) ?_
        refine lv_aload_n hx hb d_FL_sumBelow_10 rfl (lv_at hl 1 rfl) ?_
        refine lg_I16 hx hb hK hP ha d_FL_sumBelow_11 ?_
        refine lv_icmp_ge (tgt := 27) hx hb d_FL_sumBelow_12 (by decide) (fun _ => ?_) (fun h_2 => absurd (fl_le (b := 16) rfl (by omega) (by omega)) h_2)
        have hl := lv_sub (l' := [(0, .int x1), (1, .ref (ad qa)), (2, .int sm)]) hl [0, 1, 2] rfl
        exact kk (sm) ls _ _ hG.symm hl hP hS
    | succ k_4 ih_4 =>
      intro i_4 sm ls H locs hbd hl hP hS kk
      have hG : g_FL_sumBelow_L4 fv x1 (k_4 + 1) i_4 sm = _ := g_FL_sumBelow_L4.eq_2 ..
      refine lv_iload_n hx hb d_FL_sumBelow_4 rfl (lv_at hl 3 rfl) ?_
      refine lv_iload_n hx hb d_FL_sumBelow_5 rfl (lv_at hl 0 rfl) ?_
      refine lv_icmp_ge (tgt := 27) hx hb d_FL_sumBelow_6 (by decide) (fun h_3 => ?_) (fun h_3 => ?_)
      ·
        have hG := hG.trans (if_pos h_3)
        have hl := lv_sub (l' := [(0, .int x1), (1, .ref (ad qa)), (2, .int sm)]) hl [0, 1, 2] rfl
        exact kk (sm) ls _ _ hG.symm hl hP hS
      ·
        have hG := hG.trans (if_neg h_3)
        refine lv_iload_n hx hb d_FL_sumBelow_9 rfl (lv_at hl 3 rfl) ?_
        refine lv_aload_n hx hb d_FL_sumBelow_10 rfl (lv_at hl 1 rfl) ?_
        refine lg_I16 hx hb hK hP ha d_FL_sumBelow_11 ?_
        refine lv_icmp_ge (tgt := 27) hx hb d_FL_sumBelow_12 (by decide) (fun h_4 => absurd h_4 (fl_nle (b := 16) rfl (by omega) (by omega))) (fun _ => ?_)
        refine lv_iload_n hx hb d_FL_sumBelow_15 rfl (lv_at hl 2 rfl) ?_
        refine lv_aload_n hx hb d_FL_sumBelow_16 rfl (lv_at hl 1 rfl) ?_
        refine lv_iload_n hx hb d_FL_sumBelow_17 rfl (lv_at hl 3 rfl) ?_
        refine ag_I16 (v := .int (fv (nI i_4).toNatClampNeg)) hx hb hK hP ha (vp_in_nI (by omega) (by decide)) rfl d_FL_sumBelow_18 ?_
        refine lv_iadd hx hb d_FL_sumBelow_19 ?_
        refine lv_istore_n (lv' := [(2, .int (sm + (fv (nI i_4).toNatClampNeg))), (0, .int x1), (1, .ref (ad qa)), (3, .int (nI i_4))]) hx hb d_FL_sumBelow_20 rfl hl (by decide) rfl (fun ls hl => ?_)
        refine lv_iinc (k := 3) (v := nI (i_4 + 1)) (lv' := [(3, .int (nI (i_4 + 1))), (2, .int (sm + (fv (nI i_4).toNatClampNeg))), (0, .int x1), (1, .ref (ad qa))]) hx hb d_FL_sumBelow_21 hl rfl (fl_inc _) (by decide) rfl (fun ls hl => ?_)
        refine lv_goto (tgt := 4) hx hb d_FL_sumBelow_24 (by decide) ?_
        have hl := lv_sub (l' := [(0, .int x1), (1, .ref (ad qa)), (2, .int (sm + (fv (nI i_4).toNatClampNeg))), (3, .int (nI (i_4 + 1)))]) hl [2, 3, 1, 0] rfl
        exact ih_4 (i_4 + 1) (sm + (fv (nI i_4).toNatClampNeg)) ls _ _ (by omega) hl hP hS (fun v ls H locs hv => kk v ls H locs (hv.trans hG.symm))
  have hl := lv_sub (l' := [(0, .int x1), (1, .ref (ad qa)), (2, .int 0), (3, .int (nI 0))]) hl [2, 3, 1, 0] rfl
  refine lp_4 16 0 0 ls _ _ (by omega) hl hP hS (fun v ls H locs hv hl hP hS => ?_)
  subst hv
  refine lv_iload_n hx hb d_FL_sumBelow_27 rfl (lv_at hl 2 rfl) ?_
  exact fl_iret hx hb hr hlocks hP hS hG.symm rfl d_FL_sumBelow_28
theorem hd_FL_sumBelow : y_FL_sumBelow.cls ≠ "java/lang/invoke/MethodHandle" ∧ y_FL_sumBelow.cls ≠ "java/lang/invoke/VarHandle" ∧ (parseMethodDescriptor y_FL_sumBelow.desc).map (fun d => d.parameters.length) = some 2 := by decide +kernel
theorem kv_FL_sumBelow {R : Room} {s : State} {args : Array Value} {c0 : Cond} {own : String} {index : Nat} (hts : ∀ w ∈ c0 :: gw, w.before args s = true) (hl : (Cond.methodLink own index y_FL_sumBelow).before args s = true) (hR : 0 + 1 ≤ R.frames ∧ 8 + (4 + 11) + 0 ≤ R.locals) : CallB R s args own index y_FL_sumBelow b_FL_sumBelow 4 (some .int) w_FL_sumBelow ({ frames := 0, cells := 0, slots := 0, locals := 0 } : Room) 0 0 2 ∧ (Cond.static y_FL_sumBelow).before args s = true := ⟨callB_of 2 hts (gw_in tw_510) rfl rfl rfl (hts _ (List.mem_cons_of_mem _ tw_1)) hl hd_FL_sumBelow hR, hts _ (List.mem_cons_of_mem _ tw_509)⟩
theorem kn_FL_sumBelow {R : Room} {s : State} {args : Array Value} {c0 : Cond} {own : String} {index : Nat} (hts : ∀ w ∈ c0 :: gw, w.before args s = true) {host : String} (hl : va_Nw (.methodLinkNest own index y_FL_sumBelow host) s) (hR : 0 + 1 ≤ R.frames ∧ 8 + (4 + 11) + 0 ≤ R.locals) : va_CN R s args own index y_FL_sumBelow host b_FL_sumBelow 4 (some .int) w_FL_sumBelow ({ frames := 0, cells := 0, slots := 0, locals := 0 } : Room) 0 0 2 ∧ (Cond.static y_FL_sumBelow).before args s = true ∧ True := ⟨va_cnB 2 hts (gw_in tw_510) rfl rfl rfl hl (hts _ (List.mem_cons_of_mem _ tw_1)) hd_FL_sumBelow hR, hts _ (List.mem_cons_of_mem _ tw_509), trivial⟩
