theorem hd_GR_init : y_GR_init.cls ≠ "java/lang/invoke/MethodHandle" ∧ y_GR_init.cls ≠ "java/lang/invoke/VarHandle" ∧ (parseMethodDescriptor y_GR_init.desc).map (fun d => d.parameters.length) = some 1 := by decide +kernel
theorem ki_GR {R : Room} {s : State} {args : Array Value} {c0 : Cond} {own : String} {index : Nat} (hts : ∀ w ∈ c0 :: gw, w.before args s = true) (hl : (Cond.methodLink own index y_GR_init).before args s = true) (hR : 2 + 1 ≤ R.frames ∧ 8 + (3 + 11) + 34 ≤ R.locals) : CallB R s args own index y_GR_init b_GR_init 3 none w_GR_init ({ frames := 2, cells := 36, slots := 555, locals := 34 } : Room) 36 555 1 ∧ y_GR_init.name = "<init>" ∧ (Cond.instanceMethod y_GR_init).before args s = true := ⟨callB_of 1 hts (gw_in tw_73) rfl rfl rfl (hts _ (List.mem_cons_of_mem _ tw_4)) hl hd_GR_init hR, rfl, hts _ (List.mem_cons_of_mem _ tw_72)⟩
theorem hd_CT_init : y_CT_init.cls ≠ "java/lang/invoke/MethodHandle" ∧ y_CT_init.cls ≠ "java/lang/invoke/VarHandle" ∧ (parseMethodDescriptor y_CT_init.desc).map (fun d => d.parameters.length) = some 1 := by decide +kernel
theorem ki_CT {R : Room} {s : State} {args : Array Value} {c0 : Cond} {own : String} {index : Nat} (hts : ∀ w ∈ c0 :: gw, w.before args s = true) (hl : (Cond.methodLink own index y_CT_init).before args s = true) (hR : 2 + 1 ≤ R.frames ∧ 8 + (3 + 11) + 33 ≤ R.locals) : CallB R s args own index y_CT_init b_CT_init 3 none w_CT_init ({ frames := 2, cells := 40, slots := 587, locals := 33 } : Room) 40 587 1 ∧ y_CT_init.name = "<init>" ∧ (Cond.instanceMethod y_CT_init).before args s = true := ⟨callB_of 1 hts (gw_in tw_189) rfl rfl rfl (hts _ (List.mem_cons_of_mem _ tw_7)) hl hd_CT_init hR, rfl, hts _ (List.mem_cons_of_mem _ tw_188)⟩
/-- the ends of Ground and Craft -/
def eGR (cA : Nat → ClassId) (x1 : Int32) (h0 : Nat) (w1 : va_W) : Prop := ∃ (q7 q14 q1 q2 : Nat) (f : Nat → Option Nat) (r d : Nat → Nat), (∀ j, j < 16 → f j = some (r j)) ∧ w1 = [(h0, .inr (4, [.ref q14, .ref q7, .int 0])), (q7, .inl (cA 4, 16, .inr (.inr (.inr (.inr f))))), (q14, .inr (5, gf0 x1 q1 q2)), (q1, .inl (cA 2, 16, .inr (.inl z64))), (q2, .inl (cA 1, 16, .inl z32))] ++ pP (fun t q => .inr (6, tr0 (nI t) x1 q)) (.inl (cA 0, 16, .inl z32)) r d 16
def eCT (cA : Nat → ClassId) (x1 : Int32) (h0 : Nat) (w1 : va_W) : Prop := ∃ (q5 q18 q26 q35 : Nat) (f : Nat → Option Nat) (r d : Nat → Nat), (∀ j, j < 16 → f j = some (r j)) ∧ w1 = ([(h0, .inr (1, [.ref q5, .ref q18, .ref q26, .ref q35])), (q5, .inr (2, [.int 0, .int 0, .int 0])), (q18, .inl (cA 5, 16, .inr (.inr (.inr (.inr f))))), (q26, .inl (cA 0, 4, .inl z32))] ++ mArr q35 4 16 (cA 0) (cA 3)) ++ pP (fun _ q => .inr (3, cr0 x1 q)) (.inl (cA 0, 16, .inl z32)) r d 16
def held (x : Int32) : Int32 := if 1 < (if x < 5 then x else 5) then (if x < 5 then x else 5) else 1
set_option maxHeartbeats 4000000 in
set_option maxRecDepth 100000 in
theorem c_FL_init (l : Launch) {D : va_G} {cA : Nat → ClassId} (h0 sz : Nat) (x1 : Int32) : Met l y_FL_init w_FL_init ({ frames := 3, cells := 87, slots := 1249, locals := 56 } : Room) (va_Pc [.ref h0, .int x1] (cS D (xt cA) xMN sz h0 (.inr (0, [.null, .null, .null, .null, .null, .int 0])))) (va_Qv (fun w1 => ∃ (q8 q33 q46 q59 q71 qa qb : Nat) (fa fb : Nat → Int64) (wg wc : va_W), (∀ j, j < 8 → fa j = -1) ∧ (∀ j, j < 8 → fb j = -1) ∧ eGR cA (2 * held x1 + 6) q59 wg ∧ eCT cA (2 * held x1 + 6) q71 wc ∧ w1 = (((([(h0, .inr (0, [.ref q8, .ref q33, .ref q46, .ref q59, .ref q71, .int 0]))] ++ mArr q8 4 16 (cA 0) (cA 3)) ++ [(q33, .inr (7, wy0 1 (held x1) qa)), (qa, .inl (cA 2, 8, .inr (.inl fa)))]) ++ [(q46, .inr (7, wy0 0 (held x1) qb)), (qb, .inl (cA 2, 8, .inr (.inl fb)))]) ++ wg) ++ wc) (cEn D (va_A [(h0, .inr (0, [.null, .null, .null, .null, .null, .int 0]))] sz)) (va_A [(h0, .inr (0, [.null, .null, .null, .null, .null, .int 0]))] sz)) 87 1249 (va_A [(h0, .inr (0, [.null, .null, .null, .null, .null, .int 0]))] sz) := by
  refine Met.ofW (cc := b_FL_init) (maxL := 4) (ret := none) (by decide) rfl ?_
  intro p e s m args below meth c s₁ B hml hv
  obtain ⟨rfl, hsz, hP, hK, hD0, hN, hO⟩ := hv
  have hx := B.exec
  have hb := B.bytes
  have hr := B.returns
  have hts := atoms_spec (ws := w_FL_init) B.pre
  have hg : ∀ w ∈ gw, w.before ([.ref h0, .int x1] : List Value).toArray s = true := fun w hw => hts w (List.mem_cons_of_mem _ hw)
  have hown : s.vm.findClass "FarLink" = some m.cls := findClass_of_methodNamed B.named
  have hlocks := B.notSynchronized
  have hin : meth.name = "<init>" := (name_of_methodNamed B.named B.method).1
  subst hsz
  have hD := hD0.self (sz := s.heap.size)
  generalize hAe : va_A [(h0, .inr (0, [.null, .null, .null, .null, .null, .int 0]))] s.heap.size = A at hD ⊢
  have hA : ∀ q : Nat, s.heap.size ≤ q → A q := fun q h => by rw [← hAe]; exact Or.inr h
  have hS : va_S A s.heap s.heap [] := va_S.rf
  have hl := lv_entry ([.ref h0, .int x1]) (n := 4) (Nat.le_of_ble_eq_true rfl)
  rw [lg_entry_eq]
  generalize (lg_sl ([.ref h0, .int x1]) ++ List.replicate (4 - (lg_sl ([.ref h0, .int x1])).length) Slot.unset).toArray = ls at hl ⊢
  have hl : lv_has ls 4 [(0, .ref h0), (1, .int x1)] := hl
  refine lv_aload_n hx hb d_FL_init_0 rfl (lv_at hl 0 rfl) ?_
  refine W.objInit hx hb hown (hg _ tw_20) (hg _ tw_21) (hg _ tw_22) rfl (by rw [hml]; exact hl.1) rfl d_FL_init_1 (Nat.le_of_ble_eq_true rfl) (Nat.le_of_ble_eq_true rfl) ?_
  refine W.eq (g2 := F0 m 4 ls []) rfl ?_
  refine lv_aload_n hx hb d_FL_init_4 rfl (lv_at hl 0 rfl) ?_
  refine lv_iconst (v := 4) hx hb d_FL_init_5 (by decide) ?_
  refine lv_bipush (v := 16) hx hb d_FL_init_6 (by decide) ?_
  refine kq_mna (t0 := 0) (t1 := 3) (cI := cA 0) (cII := cA 3) (N := 4) (K := 16) hx hb hown (hg _ tw_23) hO.2.2 (hg _ tw_67) hK rfl rfl hP hD hS hA (by decide) (by decide) (by decide) (by decide) (by decide) (by decide) (Nat.le_of_ble_eq_true rfl) (Nat.le_of_ble_eq_true rfl) d_FL_init_8 (fun q8 H hP hD hS => ?_)
  refine va_putF (D := D) (ci := 0) (v := .ref q8) (ty := .array (.array .int)) (C := "FarLink") (T := F_FL) (N := 6) hx hb hg in_FL t_FL t_FL_ok n_FL hown hK hP hD hS 0 rfl rfl 0 (by decide) (hg _ tw_282) (fun _ h9 => h9) rfl hin rfl (by decide +kernel) rfl rfl (Nat.le_of_ble_eq_true rfl) d_FL_init_12 (fun H locs hP hD hS => ?_)
  have hP : va_P D cls ([(h0, .inr (0, [.ref q8, .null, .null, .null, .null, .int 0]))] ++ mArr q8 4 16 (cA 0) (cA 3)) H := hP
  have hD : va_D A ([(h0, .inr (0, [.ref q8, .null, .null, .null, .null, .int 0]))] ++ mArr q8 4 16 (cA 0) (cA 3)) := hD
  refine lv_iconst (v := 1) hx hb d_FL_init_15 (by decide) ?_
  refine lv_iconst (v := 5) hx hb d_FL_init_16 (by decide) ?_
  refine lv_iload_n hx hb d_FL_init_17 rfl (lv_at hl 1 rfl) ?_
  refine va_mmin (x := 5) (y := x1) hx hb (by rw [hml]; exact hl.1.symm) hown (hg _ tw_25) (hg _ tw_26) (hg _ tw_2) (hg _ tw_27) (Nat.le_of_ble_eq_true rfl) (Nat.le_of_ble_eq_true rfl) (Nat.le_of_ble_eq_true rfl) (Nat.le_of_ble_eq_true rfl) d_FL_init_18 ?_
  refine va_mmax (x := 1) (y := if x1 < 5 then x1 else 5) hx hb (by rw [hml]; exact hl.1.symm) hown (hg _ tw_28) (hg _ tw_29) (hg _ tw_2) (hg _ tw_30) (Nat.le_of_ble_eq_true rfl) (Nat.le_of_ble_eq_true rfl) (Nat.le_of_ble_eq_true rfl) (Nat.le_of_ble_eq_true rfl) d_FL_init_21 ?_
  have he : (if 1 < (if x1 < 5 then x1 else 5) then (if x1 < 5 then x1 else 5) else 1) = held x1 := rfl
  rw [he]
  refine lv_istore_n (lv' := [(2, .int (held x1)), (0, .ref h0), (1, .int x1)]) hx hb d_FL_init_24 rfl hl (by decide) rfl (fun ls hl => ?_)
  have hl := lv_sub (l' := [(0, .ref h0), (1, .int x1), (2, .int (held x1))]) hl [1, 2, 0] rfl
  refine lv_iconst (v := 2) hx hb d_FL_init_25 (by decide) ?_
  refine lv_iload_n hx hb d_FL_init_26 rfl (lv_at hl 2 rfl) ?_
  refine lv_imul hx hb d_FL_init_27 ?_
  refine lv_bipush (v := 6) hx hb d_FL_init_28 (by decide) ?_
  refine lv_iadd hx hb d_FL_init_30 ?_
  refine lv_istore_n (lv' := [(3, .int (2 * held x1 + 6)), (0, .ref h0), (1, .int x1), (2, .int (held x1))]) hx hb d_FL_init_31 rfl hl (by decide) rfl (fun ls hl => ?_)
  have hl := lv_sub (l' := [(0, .ref h0), (1, .int x1), (2, .int (held x1)), (3, .int (2 * held x1 + 6))]) hl [1, 2, 3, 0] rfl
  refine lv_aload_n hx hb d_FL_init_32 rfl (lv_at hl 0 rfl) ?_
  refine va_new (ci := 7) (fs := [.int 0, .int 0, .null, .long 0, .int 0, .int 0, .int 0, .int 0]) (C := "FarLink$Way") (T := F_WY) (N := 8) hx hb hg in_WY t_WY t_WY_ok hown (hg _ tw_31) (hg _ tw_32) (hg _ tw_3) hK hP hD hS hA rfl (by decide) (Nat.le_of_ble_eq_true rfl) (Nat.le_of_ble_eq_true rfl) d_FL_init_33 (fun q33 H hP hD hS => ?_)
  refine lv_dup hx hb d_FL_init_36 rfl ?_
  refine lv_iconst (v := 1) hx hb d_FL_init_37 (by decide) ?_
  refine lv_iload_n hx hb d_FL_init_38 rfl (lv_at hl 2 rfl) ?_
  refine kq_init (w := ([(h0, .inr (0, [.ref q8, .null, .null, .null, .null, .int 0]))] ++ mArr q8 4 16 (cA 0) (cA 3))) (va_runI (As := [.int 1, .int (held x1)]) (rest := [.ref q33, .ref h0]) ⟨hx, hb, hml, hown, hts⟩ (c_WY_init l q33 H.size 1 (held x1) (by decide)) (ki_WY hts (hg _ tw_33) ⟨Nat.le_of_ble_eq_true rfl, Nat.le_of_ble_eq_true rfl⟩) (cS.pre (w := ([(h0, .inr (0, [.ref q8, .null, .null, .null, .null, .int 0]))] ++ mArr q8 4 16 (cA 0) (cA 3))) hK hN hO hP) rfl rfl hl.1 rfl (lv_room (Nat.le_of_ble_eq_true rfl)) d_FL_init_39 ⟨Nat.le_of_ble_eq_true rfl, Nat.le_of_ble_eq_true rfl⟩) hP hD hS hA (fun w1 H locs hw hP hD hS => ?_)
  obtain ⟨qa, fa, hfa, rfl⟩ := hw
  have hP : va_P D cls (([(h0, .inr (0, [.ref q8, .null, .null, .null, .null, .int 0]))] ++ mArr q8 4 16 (cA 0) (cA 3)) ++ [(q33, .inr (7, wy0 1 (held x1) qa)), (qa, .inl (cA 2, 8, .inr (.inl fa)))]) H := hP
  have hD : va_D A (([(h0, .inr (0, [.ref q8, .null, .null, .null, .null, .int 0]))] ++ mArr q8 4 16 (cA 0) (cA 3)) ++ [(q33, .inr (7, wy0 1 (held x1) qa)), (qa, .inl (cA 2, 8, .inr (.inl fa)))]) := hD
  refine va_putF (D := D) (ci := 0) (v := .ref q33) (ty := .object "FarLink$Way") (C := "FarLink") (T := F_FL) (N := 6) hx hb hg in_FL t_FL t_FL_ok n_FL hown hK hP hD hS 0 rfl rfl 1 (by decide) (hg _ tw_283) (fun _ h9 => h9) rfl hin rfl (by decide +kernel) rfl rfl (Nat.le_of_ble_eq_true rfl) d_FL_init_42 (fun H locs hP hD hS => ?_)
  have hP : va_P D cls (([(h0, .inr (0, [.ref q8, .ref q33, .null, .null, .null, .int 0]))] ++ mArr q8 4 16 (cA 0) (cA 3)) ++ [(q33, .inr (7, wy0 1 (held x1) qa)), (qa, .inl (cA 2, 8, .inr (.inl fa)))]) H := hP
  have hD : va_D A (([(h0, .inr (0, [.ref q8, .ref q33, .null, .null, .null, .int 0]))] ++ mArr q8 4 16 (cA 0) (cA 3)) ++ [(q33, .inr (7, wy0 1 (held x1) qa)), (qa, .inl (cA 2, 8, .inr (.inl fa)))]) := hD
  refine lv_aload_n hx hb d_FL_init_45 rfl (lv_at hl 0 rfl) ?_
  refine va_new (ci := 7) (fs := [.int 0, .int 0, .null, .long 0, .int 0, .int 0, .int 0, .int 0]) (C := "FarLink$Way") (T := F_WY) (N := 8) hx hb hg in_WY t_WY t_WY_ok hown (hg _ tw_31) (hg _ tw_32) (hg _ tw_3) hK hP hD hS hA rfl (by decide) (Nat.le_of_ble_eq_true rfl) (Nat.le_of_ble_eq_true rfl) d_FL_init_46 (fun q46 H hP hD hS => ?_)
  refine lv_dup hx hb d_FL_init_49 rfl ?_
  refine lv_iconst (v := 0) hx hb d_FL_init_50 (by decide) ?_
  refine lv_iload_n hx hb d_FL_init_51 rfl (lv_at hl 2 rfl) ?_
  refine kq_init (w := (([(h0, .inr (0, [.ref q8, .ref q33, .null, .null, .null, .int 0]))] ++ mArr q8 4 16 (cA 0) (cA 3)) ++ [(q33, .inr (7, wy0 1 (held x1) qa)), (qa, .inl (cA 2, 8, .inr (.inl fa)))])) (va_runI (As := [.int 0, .int (held x1)]) (rest := [.ref q46, .ref h0]) ⟨hx, hb, hml, hown, hts⟩ (c_WY_init l q46 H.size 0 (held x1) (by decide)) (ki_WY hts (hg _ tw_33) ⟨Nat.le_of_ble_eq_true rfl, Nat.le_of_ble_eq_true rfl⟩) (cS.pre (w := (([(h0, .inr (0, [.ref q8, .ref q33, .null, .null, .null, .int 0]))] ++ mArr q8 4 16 (cA 0) (cA 3)) ++ [(q33, .inr (7, wy0 1 (held x1) qa)), (qa, .inl (cA 2, 8, .inr (.inl fa)))])) hK hN hO hP) rfl rfl hl.1 rfl (lv_room (Nat.le_of_ble_eq_true rfl)) d_FL_init_52 ⟨Nat.le_of_ble_eq_true rfl, Nat.le_of_ble_eq_true rfl⟩) hP hD hS hA (fun w1 H locs hw hP hD hS => ?_)
  obtain ⟨qb, fb, hfb, rfl⟩ := hw
  have hP : va_P D cls ((([(h0, .inr (0, [.ref q8, .ref q33, .null, .null, .null, .int 0]))] ++ mArr q8 4 16 (cA 0) (cA 3)) ++ [(q33, .inr (7, wy0 1 (held x1) qa)), (qa, .inl (cA 2, 8, .inr (.inl fa)))]) ++ [(q46, .inr (7, wy0 0 (held x1) qb)), (qb, .inl (cA 2, 8, .inr (.inl fb)))]) H := hP
  have hD : va_D A ((([(h0, .inr (0, [.ref q8, .ref q33, .null, .null, .null, .int 0]))] ++ mArr q8 4 16 (cA 0) (cA 3)) ++ [(q33, .inr (7, wy0 1 (held x1) qa)), (qa, .inl (cA 2, 8, .inr (.inl fa)))]) ++ [(q46, .inr (7, wy0 0 (held x1) qb)), (qb, .inl (cA 2, 8, .inr (.inl fb)))]) := hD
  refine va_putF (D := D) (ci := 0) (v := .ref q46) (ty := .object "FarLink$Way") (C := "FarLink") (T := F_FL) (N := 6) hx hb hg in_FL t_FL t_FL_ok n_FL hown hK hP hD hS 0 rfl rfl 2 (by decide) (hg _ tw_284) (fun _ h9 => h9) rfl hin rfl (by decide +kernel) rfl rfl (Nat.le_of_ble_eq_true rfl) d_FL_init_55 (fun H locs hP hD hS => ?_)
  have hP : va_P D cls ((([(h0, .inr (0, [.ref q8, .ref q33, .ref q46, .null, .null, .int 0]))] ++ mArr q8 4 16 (cA 0) (cA 3)) ++ [(q33, .inr (7, wy0 1 (held x1) qa)), (qa, .inl (cA 2, 8, .inr (.inl fa)))]) ++ [(q46, .inr (7, wy0 0 (held x1) qb)), (qb, .inl (cA 2, 8, .inr (.inl fb)))]) H := hP
  have hD : va_D A ((([(h0, .inr (0, [.ref q8, .ref q33, .ref q46, .null, .null, .int 0]))] ++ mArr q8 4 16 (cA 0) (cA 3)) ++ [(q33, .inr (7, wy0 1 (held x1) qa)), (qa, .inl (cA 2, 8, .inr (.inl fa)))]) ++ [(q46, .inr (7, wy0 0 (held x1) qb)), (qb, .inl (cA 2, 8, .inr (.inl fb)))]) := hD
  refine lv_aload_n hx hb d_FL_init_58 rfl (lv_at hl 0 rfl) ?_
  refine va_new (ci := 4) (fs := [.null, .null, .int 0]) (C := "FarLink$Ground") (T := F_GR) (N := 3) hx hb hg in_GR t_GR t_GR_ok hown (hg _ tw_69) (hg _ tw_70) (hg _ tw_4) hK hP hD hS hA rfl (by decide) (Nat.le_of_ble_eq_true rfl) (Nat.le_of_ble_eq_true rfl) d_FL_init_59 (fun q59 H hP hD hS => ?_)
  refine lv_dup hx hb d_FL_init_62 rfl ?_
  refine lv_iload_n hx hb d_FL_init_63 rfl (lv_at hl 3 rfl) ?_
  refine kq_init (w := ((([(h0, .inr (0, [.ref q8, .ref q33, .ref q46, .null, .null, .int 0]))] ++ mArr q8 4 16 (cA 0) (cA 3)) ++ [(q33, .inr (7, wy0 1 (held x1) qa)), (qa, .inl (cA 2, 8, .inr (.inl fa)))]) ++ [(q46, .inr (7, wy0 0 (held x1) qb)), (qb, .inl (cA 2, 8, .inr (.inl fb)))])) (va_runI (As := [.int (2 * held x1 + 6)]) (rest := [.ref q59, .ref h0]) ⟨hx, hb, hml, hown, hts⟩ (c_GR_init l q59 H.size (2 * held x1 + 6)) (ki_GR hts (hg _ tw_71) ⟨Nat.le_of_ble_eq_true rfl, Nat.le_of_ble_eq_true rfl⟩) (cS.pre (w := ((([(h0, .inr (0, [.ref q8, .ref q33, .ref q46, .null, .null, .int 0]))] ++ mArr q8 4 16 (cA 0) (cA 3)) ++ [(q33, .inr (7, wy0 1 (held x1) qa)), (qa, .inl (cA 2, 8, .inr (.inl fa)))]) ++ [(q46, .inr (7, wy0 0 (held x1) qb)), (qb, .inl (cA 2, 8, .inr (.inl fb)))])) hK hN hO hP) rfl rfl hl.1 rfl (lv_room (Nat.le_of_ble_eq_true rfl)) d_FL_init_64 ⟨Nat.le_of_ble_eq_true rfl, Nat.le_of_ble_eq_true rfl⟩) hP hD hS hA (fun w1 H locs hw hP hD hS => ?_)
  obtain ⟨wg, hwg⟩ : ∃ z, z = w1 := ⟨_, rfl⟩
  subst hwg
  have hg9 : eGR cA (2 * held x1 + 6) q59 wg := hw
  have hP : va_P D cls (((([(h0, .inr (0, [.ref q8, .ref q33, .ref q46, .null, .null, .int 0]))] ++ mArr q8 4 16 (cA 0) (cA 3)) ++ [(q33, .inr (7, wy0 1 (held x1) qa)), (qa, .inl (cA 2, 8, .inr (.inl fa)))]) ++ [(q46, .inr (7, wy0 0 (held x1) qb)), (qb, .inl (cA 2, 8, .inr (.inl fb)))]) ++ wg) H := hP
  have hD : va_D A (((([(h0, .inr (0, [.ref q8, .ref q33, .ref q46, .null, .null, .int 0]))] ++ mArr q8 4 16 (cA 0) (cA 3)) ++ [(q33, .inr (7, wy0 1 (held x1) qa)), (qa, .inl (cA 2, 8, .inr (.inl fa)))]) ++ [(q46, .inr (7, wy0 0 (held x1) qb)), (qb, .inl (cA 2, 8, .inr (.inl fb)))]) ++ wg) := hD
  refine va_putF (D := D) (ci := 0) (v := .ref q59) (ty := .object "FarLink$Ground") (C := "FarLink") (T := F_FL) (N := 6) hx hb hg in_FL t_FL t_FL_ok n_FL hown hK hP hD hS 0 rfl rfl 3 (by decide) (hg _ tw_285) (fun _ h9 => h9) rfl hin rfl (by decide +kernel) rfl rfl (Nat.le_of_ble_eq_true rfl) d_FL_init_67 (fun H locs hP hD hS => ?_)
  have hP : va_P D cls (((([(h0, .inr (0, [.ref q8, .ref q33, .ref q46, .ref q59, .null, .int 0]))] ++ mArr q8 4 16 (cA 0) (cA 3)) ++ [(q33, .inr (7, wy0 1 (held x1) qa)), (qa, .inl (cA 2, 8, .inr (.inl fa)))]) ++ [(q46, .inr (7, wy0 0 (held x1) qb)), (qb, .inl (cA 2, 8, .inr (.inl fb)))]) ++ wg) H := hP
  have hD : va_D A (((([(h0, .inr (0, [.ref q8, .ref q33, .ref q46, .ref q59, .null, .int 0]))] ++ mArr q8 4 16 (cA 0) (cA 3)) ++ [(q33, .inr (7, wy0 1 (held x1) qa)), (qa, .inl (cA 2, 8, .inr (.inl fa)))]) ++ [(q46, .inr (7, wy0 0 (held x1) qb)), (qb, .inl (cA 2, 8, .inr (.inl fb)))]) ++ wg) := hD
  refine lv_aload_n hx hb d_FL_init_70 rfl (lv_at hl 0 rfl) ?_
  refine va_new (ci := 1) (fs := [.null, .null, .null, .null]) (C := "FarLink$Craft") (T := F_CT) (N := 4) hx hb hg in_CT t_CT t_CT_ok hown (hg _ tw_185) (hg _ tw_186) (hg _ tw_7) hK hP hD hS hA rfl (by decide) (Nat.le_of_ble_eq_true rfl) (Nat.le_of_ble_eq_true rfl) d_FL_init_71 (fun q71 H hP hD hS => ?_)
  refine lv_dup hx hb d_FL_init_74 rfl ?_
  refine lv_iload_n hx hb d_FL_init_75 rfl (lv_at hl 3 rfl) ?_
  refine kq_init (w := (((([(h0, .inr (0, [.ref q8, .ref q33, .ref q46, .ref q59, .null, .int 0]))] ++ mArr q8 4 16 (cA 0) (cA 3)) ++ [(q33, .inr (7, wy0 1 (held x1) qa)), (qa, .inl (cA 2, 8, .inr (.inl fa)))]) ++ [(q46, .inr (7, wy0 0 (held x1) qb)), (qb, .inl (cA 2, 8, .inr (.inl fb)))]) ++ wg)) (va_runI (As := [.int (2 * held x1 + 6)]) (rest := [.ref q71, .ref h0]) ⟨hx, hb, hml, hown, hts⟩ (c_CT_init l q71 H.size (2 * held x1 + 6)) (ki_CT hts (hg _ tw_187) ⟨Nat.le_of_ble_eq_true rfl, Nat.le_of_ble_eq_true rfl⟩) (cS.pre (w := (((([(h0, .inr (0, [.ref q8, .ref q33, .ref q46, .ref q59, .null, .int 0]))] ++ mArr q8 4 16 (cA 0) (cA 3)) ++ [(q33, .inr (7, wy0 1 (held x1) qa)), (qa, .inl (cA 2, 8, .inr (.inl fa)))]) ++ [(q46, .inr (7, wy0 0 (held x1) qb)), (qb, .inl (cA 2, 8, .inr (.inl fb)))]) ++ wg)) hK hN hO hP) rfl rfl hl.1 rfl (lv_room (Nat.le_of_ble_eq_true rfl)) d_FL_init_76 ⟨Nat.le_of_ble_eq_true rfl, Nat.le_of_ble_eq_true rfl⟩) hP hD hS hA (fun w1 H locs hw hP hD hS => ?_)
  obtain ⟨wc, hwc⟩ : ∃ z, z = w1 := ⟨_, rfl⟩
  subst hwc
  have hc9 : eCT cA (2 * held x1 + 6) q71 wc := hw
  have hP : va_P D cls ((((([(h0, .inr (0, [.ref q8, .ref q33, .ref q46, .ref q59, .null, .int 0]))] ++ mArr q8 4 16 (cA 0) (cA 3)) ++ [(q33, .inr (7, wy0 1 (held x1) qa)), (qa, .inl (cA 2, 8, .inr (.inl fa)))]) ++ [(q46, .inr (7, wy0 0 (held x1) qb)), (qb, .inl (cA 2, 8, .inr (.inl fb)))]) ++ wg) ++ wc) H := hP
  have hD : va_D A ((((([(h0, .inr (0, [.ref q8, .ref q33, .ref q46, .ref q59, .null, .int 0]))] ++ mArr q8 4 16 (cA 0) (cA 3)) ++ [(q33, .inr (7, wy0 1 (held x1) qa)), (qa, .inl (cA 2, 8, .inr (.inl fa)))]) ++ [(q46, .inr (7, wy0 0 (held x1) qb)), (qb, .inl (cA 2, 8, .inr (.inl fb)))]) ++ wg) ++ wc) := hD
  refine va_putF (D := D) (ci := 0) (v := .ref q71) (ty := .object "FarLink$Craft") (C := "FarLink") (T := F_FL) (N := 6) hx hb hg in_FL t_FL t_FL_ok n_FL hown hK hP hD hS 0 rfl rfl 4 (by decide) (hg _ tw_286) (fun _ h9 => h9) rfl hin rfl (by decide +kernel) rfl rfl (Nat.le_of_ble_eq_true rfl) d_FL_init_79 (fun H locs hP hD hS => ?_)
  have hP : va_P D cls ((((([(h0, .inr (0, [.ref q8, .ref q33, .ref q46, .ref q59, .ref q71, .int 0]))] ++ mArr q8 4 16 (cA 0) (cA 3)) ++ [(q33, .inr (7, wy0 1 (held x1) qa)), (qa, .inl (cA 2, 8, .inr (.inl fa)))]) ++ [(q46, .inr (7, wy0 0 (held x1) qb)), (qb, .inl (cA 2, 8, .inr (.inl fb)))]) ++ wg) ++ wc) H := hP
  have hD : va_D A ((((([(h0, .inr (0, [.ref q8, .ref q33, .ref q46, .ref q59, .ref q71, .int 0]))] ++ mArr q8 4 16 (cA 0) (cA 3)) ++ [(q33, .inr (7, wy0 1 (held x1) qa)), (qa, .inl (cA 2, 8, .inr (.inl fa)))]) ++ [(q46, .inr (7, wy0 0 (held x1) qb)), (qb, .inl (cA 2, 8, .inr (.inl fb)))]) ++ wg) ++ wc) := hD
  exact W.vret hx hb hr (fun t ht hW => ⟨⟨_, rfl, ⟨q8, q33, q46, q59, q71, qa, qb, fa, fb, wg, wc, hfa, hfb, hg9, hc9, rfl⟩, by rw [ht]; exact hP, hD⟩, hS.F ht⟩) hS.2.2 d_FL_init_82
