/-! constructors: records, transactions, frames, ways -/
def cr0 (x : Int32) (q : Nat) : List Value := [.int x, .ref q, .int 0, .int 0, .int 0, .int 0, .int 0, .int 0, .int 0, .int 0, .int 0, .int 0, .int 0, .int 0, .int 0]
def tr0 (x y : Int32) (q : Nat) : List Value := [.int x, .int y, .ref q, .int 0, .int 0, .int 0, .int 0, .int 0, .int 0, .int 0, .int 0, .int 0, .int 0, .int 0, .int 0]
def gf0 (x : Int32) (q q' : Nat) : List Value := [.int x, .ref q, .ref q', .int 0, .int 0, .int 0, .int 1, .int 0, .int 0, .int 0, .int 0]
def wy0 (x y : Int32) (q : Nat) : List Value := [.int x, .int y, .ref q, .long 0, .int 0, .int 0, .int 0, .int 0]
set_option maxHeartbeats 4000000 in
set_option maxRecDepth 100000 in
theorem c_CR_init (l : Launch) {D : va_G} {cA : Nat → ClassId} (h0 sz : Nat) (x1 : Int32) : Met l y_CR_init w_CR_init ({ frames := 1, cells := 1, slots := 16, locals := 12 } : Room) (va_Pc [.ref h0, .int x1] (cS D (xt cA) xMN sz h0 (.inr (3, [.int 0, .null, .int 0, .int 0, .int 0, .int 0, .int 0, .int 0, .int 0, .int 0, .int 0, .int 0, .int 0, .int 0, .int 0])))) (va_Qv (fun w1 => ∃ q, w1 = [(h0, .inr (3, cr0 x1 q)), (q, .inl (cA 0, 16, .inl z32))]) (cEn D (va_A [(h0, .inr (3, [.int 0, .null, .int 0, .int 0, .int 0, .int 0, .int 0, .int 0, .int 0, .int 0, .int 0, .int 0, .int 0, .int 0, .int 0]))] sz)) (va_A [(h0, .inr (3, [.int 0, .null, .int 0, .int 0, .int 0, .int 0, .int 0, .int 0, .int 0, .int 0, .int 0, .int 0, .int 0, .int 0, .int 0]))] sz)) 1 16 (va_A [(h0, .inr (3, [.int 0, .null, .int 0, .int 0, .int 0, .int 0, .int 0, .int 0, .int 0, .int 0, .int 0, .int 0, .int 0, .int 0, .int 0]))] sz) := by
  refine Met.ofW (cc := b_CR_init) (maxL := 2) (ret := none) (by decide) rfl ?_
  intro p e s m args below meth c s₁ B hml hv
  obtain ⟨rfl, hsz, hP, hK, hD0, hN, hO⟩ := hv
  have hx := B.exec
  have hb := B.bytes
  have hr := B.returns
  have hts := atoms_spec (ws := w_CR_init) B.pre
  have hg : ∀ w ∈ gw, w.before ([.ref h0, .int x1] : List Value).toArray s = true := fun w hw => hts w (List.mem_cons_of_mem _ hw)
  have hown : s.vm.findClass "FarLink$CraftRecord" = some m.cls := findClass_of_methodNamed B.named
  have hlocks := B.notSynchronized
  have hin : meth.name = "<init>" := (name_of_methodNamed B.named B.method).1
  subst hsz
  have hD := hD0.self (sz := s.heap.size)
  generalize hAe : va_A [(h0, .inr (3, [.int 0, .null, .int 0, .int 0, .int 0, .int 0, .int 0, .int 0, .int 0, .int 0, .int 0, .int 0, .int 0, .int 0, .int 0]))] s.heap.size = A at hD ⊢
  have hA : ∀ q : Nat, s.heap.size ≤ q → A q := fun q h => by rw [← hAe]; exact Or.inr h
  have hS : va_S A s.heap s.heap [] := va_S.rf
  have hl := lv_entry ([.ref h0, .int x1]) (n := 2) (Nat.le_of_ble_eq_true rfl)
  rw [lg_entry_eq]
  generalize (lg_sl ([.ref h0, .int x1]) ++ List.replicate (2 - (lg_sl ([.ref h0, .int x1])).length) Slot.unset).toArray = ls at hl ⊢
  have hl : lv_has ls 2 [(0, .ref h0), (1, .int x1)] := hl
  refine lv_aload_n hx hb d_CR_init_0 rfl (lv_at hl 0 rfl) ?_
  refine W.objInit hx hb hown (hg _ tw_214) (hg _ tw_21) (hg _ tw_22) rfl (by rw [hml]; exact hl.1) rfl d_CR_init_1 (Nat.le_of_ble_eq_true rfl) (Nat.le_of_ble_eq_true rfl) ?_
  refine W.eq (g2 := F0 m 4 ls []) rfl ?_
  refine lv_aload_n hx hb d_CR_init_4 rfl (lv_at hl 0 rfl) ?_
  refine lv_bipush (v := 16) hx hb d_CR_init_5 (by decide) ?_
  refine kq_newa (atype := .int) (t0 := 0) (cA := cA 0) (ty := .int) (N' := 16) (a0 := (16, .inl z32)) hx hb (hg _ tw_67) rfl hK rfl hP hD hS hA (fun _ => rfl) (by decide) (by decide) (by decide) (Nat.le_of_ble_eq_true rfl) (Nat.le_of_ble_eq_true rfl) d_CR_init_7 (fun q7 H hP hD hS => ?_)
  have hP : va_P D cls [(h0, .inr (3, [.int 0, .null, .int 0, .int 0, .int 0, .int 0, .int 0, .int 0, .int 0, .int 0, .int 0, .int 0, .int 0, .int 0, .int 0])), (q7, .inl (cA 0, 16, .inl z32))] H := hP
  have hD : va_D A [(h0, .inr (3, [.int 0, .null, .int 0, .int 0, .int 0, .int 0, .int 0, .int 0, .int 0, .int 0, .int 0, .int 0, .int 0, .int 0, .int 0])), (q7, .inl (cA 0, 16, .inl z32))] := hD
  refine va_putF (D := D) (ci := 3) (v := .ref q7) (ty := .array .int) (C := "FarLink$CraftRecord") (T := F_CR) (N := 15) hx hb hg in_CR t_CR t_CR_ok n_CR hown hK hP hD hS 0 rfl rfl 1 (by decide) (hg _ tw_216) (fun _ h9 => h9) rfl hin rfl (by decide +kernel) rfl rfl (Nat.le_of_ble_eq_true rfl) d_CR_init_9 (fun H locs hP hD hS => ?_)
  have hP : va_P D cls [(h0, .inr (3, [.int 0, .ref q7, .int 0, .int 0, .int 0, .int 0, .int 0, .int 0, .int 0, .int 0, .int 0, .int 0, .int 0, .int 0, .int 0])), (q7, .inl (cA 0, 16, .inl z32))] H := hP
  have hD : va_D A [(h0, .inr (3, [.int 0, .ref q7, .int 0, .int 0, .int 0, .int 0, .int 0, .int 0, .int 0, .int 0, .int 0, .int 0, .int 0, .int 0, .int 0])), (q7, .inl (cA 0, 16, .inl z32))] := hD
  refine lv_aload_n hx hb d_CR_init_12 rfl (lv_at hl 0 rfl) ?_
  refine lv_iload_n hx hb d_CR_init_13 rfl (lv_at hl 1 rfl) ?_
  refine va_putF (D := D) (ci := 3) (v := .int x1) (ty := .int) (C := "FarLink$CraftRecord") (T := F_CR) (N := 15) hx hb hg in_CR t_CR t_CR_ok n_CR hown hK hP hD hS 0 rfl rfl 0 (by decide) (hg _ tw_215) (fun _ h9 => h9) rfl hin rfl (by decide +kernel) rfl rfl (Nat.le_of_ble_eq_true rfl) d_CR_init_14 (fun H locs hP hD hS => ?_)
  have hP : va_P D cls [(h0, .inr (3, [.int x1, .ref q7, .int 0, .int 0, .int 0, .int 0, .int 0, .int 0, .int 0, .int 0, .int 0, .int 0, .int 0, .int 0, .int 0])), (q7, .inl (cA 0, 16, .inl z32))] H := hP
  have hD : va_D A [(h0, .inr (3, [.int x1, .ref q7, .int 0, .int 0, .int 0, .int 0, .int 0, .int 0, .int 0, .int 0, .int 0, .int 0, .int 0, .int 0, .int 0])), (q7, .inl (cA 0, 16, .inl z32))] := hD
  exact W.vret hx hb hr (fun t ht hW => ⟨⟨_, rfl, ⟨q7, rfl⟩, by rw [ht]; exact hP, hD⟩, hS.F ht⟩) hS.2.2 d_CR_init_17
set_option maxHeartbeats 4000000 in
set_option maxRecDepth 100000 in
theorem c_TR_init (l : Launch) {D : va_G} {cA : Nat → ClassId} (h0 sz : Nat) (x1 : Int32) (x2 : Int32) : Met l y_TR_init w_TR_init ({ frames := 1, cells := 1, slots := 16, locals := 12 } : Room) (va_Pc [.ref h0, .int x1, .int x2] (cS D (xt cA) xMN sz h0 (.inr (6, [.int 0, .int 0, .null, .int 0, .int 0, .int 0, .int 0, .int 0, .int 0, .int 0, .int 0, .int 0, .int 0, .int 0, .int 0])))) (va_Qv (fun w1 => ∃ q, w1 = [(h0, .inr (6, tr0 x1 x2 q)), (q, .inl (cA 0, 16, .inl z32))]) (cEn D (va_A [(h0, .inr (6, [.int 0, .int 0, .null, .int 0, .int 0, .int 0, .int 0, .int 0, .int 0, .int 0, .int 0, .int 0, .int 0, .int 0, .int 0]))] sz)) (va_A [(h0, .inr (6, [.int 0, .int 0, .null, .int 0, .int 0, .int 0, .int 0, .int 0, .int 0, .int 0, .int 0, .int 0, .int 0, .int 0, .int 0]))] sz)) 1 16 (va_A [(h0, .inr (6, [.int 0, .int 0, .null, .int 0, .int 0, .int 0, .int 0, .int 0, .int 0, .int 0, .int 0, .int 0, .int 0, .int 0, .int 0]))] sz) := by
  refine Met.ofW (cc := b_TR_init) (maxL := 3) (ret := none) (by decide) rfl ?_
  intro p e s m args below meth c s₁ B hml hv
  obtain ⟨rfl, hsz, hP, hK, hD0, hN, hO⟩ := hv
  have hx := B.exec
  have hb := B.bytes
  have hr := B.returns
  have hts := atoms_spec (ws := w_TR_init) B.pre
  have hg : ∀ w ∈ gw, w.before ([.ref h0, .int x1, .int x2] : List Value).toArray s = true := fun w hw => hts w (List.mem_cons_of_mem _ hw)
  have hown : s.vm.findClass "FarLink$Transaction" = some m.cls := findClass_of_methodNamed B.named
  have hlocks := B.notSynchronized
  have hin : meth.name = "<init>" := (name_of_methodNamed B.named B.method).1
  subst hsz
  have hD := hD0.self (sz := s.heap.size)
  generalize hAe : va_A [(h0, .inr (6, [.int 0, .int 0, .null, .int 0, .int 0, .int 0, .int 0, .int 0, .int 0, .int 0, .int 0, .int 0, .int 0, .int 0, .int 0]))] s.heap.size = A at hD ⊢
  have hA : ∀ q : Nat, s.heap.size ≤ q → A q := fun q h => by rw [← hAe]; exact Or.inr h
  have hS : va_S A s.heap s.heap [] := va_S.rf
  have hl := lv_entry ([.ref h0, .int x1, .int x2]) (n := 3) (Nat.le_of_ble_eq_true rfl)
  rw [lg_entry_eq]
  generalize (lg_sl ([.ref h0, .int x1, .int x2]) ++ List.replicate (3 - (lg_sl ([.ref h0, .int x1, .int x2])).length) Slot.unset).toArray = ls at hl ⊢
  have hl : lv_has ls 3 [(0, .ref h0), (1, .int x1), (2, .int x2)] := hl
  refine lv_aload_n hx hb d_TR_init_0 rfl (lv_at hl 0 rfl) ?_
  refine W.objInit hx hb hown (hg _ tw_124) (hg _ tw_21) (hg _ tw_22) rfl (by rw [hml]; exact hl.1) rfl d_TR_init_1 (Nat.le_of_ble_eq_true rfl) (Nat.le_of_ble_eq_true rfl) ?_
  refine W.eq (g2 := F0 m 4 ls []) rfl ?_
  refine lv_aload_n hx hb d_TR_init_4 rfl (lv_at hl 0 rfl) ?_
  refine lv_bipush (v := 16) hx hb d_TR_init_5 (by decide) ?_
  refine kq_newa (atype := .int) (t0 := 0) (cA := cA 0) (ty := .int) (N' := 16) (a0 := (16, .inl z32)) hx hb (hg _ tw_67) rfl hK rfl hP hD hS hA (fun _ => rfl) (by decide) (by decide) (by decide) (Nat.le_of_ble_eq_true rfl) (Nat.le_of_ble_eq_true rfl) d_TR_init_7 (fun q7 H hP hD hS => ?_)
  have hP : va_P D cls [(h0, .inr (6, [.int 0, .int 0, .null, .int 0, .int 0, .int 0, .int 0, .int 0, .int 0, .int 0, .int 0, .int 0, .int 0, .int 0, .int 0])), (q7, .inl (cA 0, 16, .inl z32))] H := hP
  have hD : va_D A [(h0, .inr (6, [.int 0, .int 0, .null, .int 0, .int 0, .int 0, .int 0, .int 0, .int 0, .int 0, .int 0, .int 0, .int 0, .int 0, .int 0])), (q7, .inl (cA 0, 16, .inl z32))] := hD
  refine va_putF (D := D) (ci := 6) (v := .ref q7) (ty := .array .int) (C := "FarLink$Transaction") (T := F_TR) (N := 15) hx hb hg in_TR t_TR t_TR_ok n_TR hown hK hP hD hS 0 rfl rfl 2 (by decide) (hg _ tw_127) (fun _ h9 => h9) rfl hin rfl (by decide +kernel) rfl rfl (Nat.le_of_ble_eq_true rfl) d_TR_init_9 (fun H locs hP hD hS => ?_)
  have hP : va_P D cls [(h0, .inr (6, [.int 0, .int 0, .ref q7, .int 0, .int 0, .int 0, .int 0, .int 0, .int 0, .int 0, .int 0, .int 0, .int 0, .int 0, .int 0])), (q7, .inl (cA 0, 16, .inl z32))] H := hP
  have hD : va_D A [(h0, .inr (6, [.int 0, .int 0, .ref q7, .int 0, .int 0, .int 0, .int 0, .int 0, .int 0, .int 0, .int 0, .int 0, .int 0, .int 0, .int 0])), (q7, .inl (cA 0, 16, .inl z32))] := hD
  refine lv_aload_n hx hb d_TR_init_12 rfl (lv_at hl 0 rfl) ?_
  refine lv_iload_n hx hb d_TR_init_13 rfl (lv_at hl 1 rfl) ?_
  refine va_putF (D := D) (ci := 6) (v := .int x1) (ty := .int) (C := "FarLink$Transaction") (T := F_TR) (N := 15) hx hb hg in_TR t_TR t_TR_ok n_TR hown hK hP hD hS 0 rfl rfl 0 (by decide) (hg _ tw_125) (fun _ h9 => h9) rfl hin rfl (by decide +kernel) rfl rfl (Nat.le_of_ble_eq_true rfl) d_TR_init_14 (fun H locs hP hD hS => ?_)
  have hP : va_P D cls [(h0, .inr (6, [.int x1, .int 0, .ref q7, .int 0, .int 0, .int 0, .int 0, .int 0, .int 0, .int 0, .int 0, .int 0, .int 0, .int 0, .int 0])), (q7, .inl (cA 0, 16, .inl z32))] H := hP
  have hD : va_D A [(h0, .inr (6, [.int x1, .int 0, .ref q7, .int 0, .int 0, .int 0, .int 0, .int 0, .int 0, .int 0, .int 0, .int 0, .int 0, .int 0, .int 0])), (q7, .inl (cA 0, 16, .inl z32))] := hD
  refine lv_aload_n hx hb d_TR_init_17 rfl (lv_at hl 0 rfl) ?_
  refine lv_iload_n hx hb d_TR_init_18 rfl (lv_at hl 2 rfl) ?_
  refine va_putF (D := D) (ci := 6) (v := .int x2) (ty := .int) (C := "FarLink$Transaction") (T := F_TR) (N := 15) hx hb hg in_TR t_TR t_TR_ok n_TR hown hK hP hD hS 0 rfl rfl 1 (by decide) (hg _ tw_126) (fun _ h9 => h9) rfl hin rfl (by decide +kernel) rfl rfl (Nat.le_of_ble_eq_true rfl) d_TR_init_19 (fun H locs hP hD hS => ?_)
  have hP : va_P D cls [(h0, .inr (6, [.int x1, .int x2, .ref q7, .int 0, .int 0, .int 0, .int 0, .int 0, .int 0, .int 0, .int 0, .int 0, .int 0, .int 0, .int 0])), (q7, .inl (cA 0, 16, .inl z32))] H := hP
  have hD : va_D A [(h0, .inr (6, [.int x1, .int x2, .ref q7, .int 0, .int 0, .int 0, .int 0, .int 0, .int 0, .int 0, .int 0, .int 0, .int 0, .int 0, .int 0])), (q7, .inl (cA 0, 16, .inl z32))] := hD
  exact W.vret hx hb hr (fun t ht hW => ⟨⟨_, rfl, ⟨q7, rfl⟩, by rw [ht]; exact hP, hD⟩, hS.F ht⟩) hS.2.2 d_TR_init_22
set_option maxHeartbeats 4000000 in
set_option maxRecDepth 100000 in
theorem c_GF_init (l : Launch) {D : va_G} {cA : Nat → ClassId} (h0 sz : Nat) (x1 : Int32) : Met l y_GF_init w_GF_init ({ frames := 1, cells := 2, slots := 32, locals := 12 } : Room) (va_Pc [.ref h0, .int x1] (cS D (xt cA) xMN sz h0 (.inr (5, [.int 0, .null, .null, .int 0, .int 0, .int 0, .int 0, .int 0, .int 0, .int 0, .int 0])))) (va_Qv (fun w1 => ∃ q q', w1 = [(h0, .inr (5, gf0 x1 q q')), (q, .inl (cA 2, 16, .inr (.inl z64))), (q', .inl (cA 1, 16, .inl z32))]) (cEn D (va_A [(h0, .inr (5, [.int 0, .null, .null, .int 0, .int 0, .int 0, .int 0, .int 0, .int 0, .int 0, .int 0]))] sz)) (va_A [(h0, .inr (5, [.int 0, .null, .null, .int 0, .int 0, .int 0, .int 0, .int 0, .int 0, .int 0, .int 0]))] sz)) 2 32 (va_A [(h0, .inr (5, [.int 0, .null, .null, .int 0, .int 0, .int 0, .int 0, .int 0, .int 0, .int 0, .int 0]))] sz) := by
  refine Met.ofW (cc := b_GF_init) (maxL := 2) (ret := none) (by decide) rfl ?_
  intro p e s m args below meth c s₁ B hml hv
  obtain ⟨rfl, hsz, hP, hK, hD0, hN, hO⟩ := hv
  have hx := B.exec
  have hb := B.bytes
  have hr := B.returns
  have hts := atoms_spec (ws := w_GF_init) B.pre
  have hg : ∀ w ∈ gw, w.before ([.ref h0, .int x1] : List Value).toArray s = true := fun w hw => hts w (List.mem_cons_of_mem _ hw)
  have hown : s.vm.findClass "FarLink$GroundFrames" = some m.cls := findClass_of_methodNamed B.named
  have hlocks := B.notSynchronized
  have hin : meth.name = "<init>" := (name_of_methodNamed B.named B.method).1
  subst hsz
  have hD := hD0.self (sz := s.heap.size)
  generalize hAe : va_A [(h0, .inr (5, [.int 0, .null, .null, .int 0, .int 0, .int 0, .int 0, .int 0, .int 0, .int 0, .int 0]))] s.heap.size = A at hD ⊢
  have hA : ∀ q : Nat, s.heap.size ≤ q → A q := fun q h => by rw [← hAe]; exact Or.inr h
  have hS : va_S A s.heap s.heap [] := va_S.rf
  have hl := lv_entry ([.ref h0, .int x1]) (n := 2) (Nat.le_of_ble_eq_true rfl)
  rw [lg_entry_eq]
  generalize (lg_sl ([.ref h0, .int x1]) ++ List.replicate (2 - (lg_sl ([.ref h0, .int x1])).length) Slot.unset).toArray = ls at hl ⊢
  have hl : lv_has ls 2 [(0, .ref h0), (1, .int x1)] := hl
  refine lv_aload_n hx hb d_GF_init_0 rfl (lv_at hl 0 rfl) ?_
  refine W.objInit hx hb hown (hg _ tw_82) (hg _ tw_21) (hg _ tw_22) rfl (by rw [hml]; exact hl.1) rfl d_GF_init_1 (Nat.le_of_ble_eq_true rfl) (Nat.le_of_ble_eq_true rfl) ?_
  refine W.eq (g2 := F0 m 4 ls []) rfl ?_
  refine lv_aload_n hx hb d_GF_init_4 rfl (lv_at hl 0 rfl) ?_
  refine lv_bipush (v := 16) hx hb d_GF_init_5 (by decide) ?_
  refine kq_newa (atype := .long) (t0 := 2) (cA := cA 2) (ty := .long) (N' := 16) (a0 := (16, .inr (.inl z64))) hx hb (hg _ tw_68) rfl hK rfl hP hD hS hA (fun _ => rfl) (by decide) (by decide) (by decide) (Nat.le_of_ble_eq_true rfl) (Nat.le_of_ble_eq_true rfl) d_GF_init_7 (fun q7 H hP hD hS => ?_)
  have hP : va_P D cls [(h0, .inr (5, [.int 0, .null, .null, .int 0, .int 0, .int 0, .int 0, .int 0, .int 0, .int 0, .int 0])), (q7, .inl (cA 2, 16, .inr (.inl z64)))] H := hP
  have hD : va_D A [(h0, .inr (5, [.int 0, .null, .null, .int 0, .int 0, .int 0, .int 0, .int 0, .int 0, .int 0, .int 0])), (q7, .inl (cA 2, 16, .inr (.inl z64)))] := hD
  refine va_putF (D := D) (ci := 5) (v := .ref q7) (ty := .array .long) (C := "FarLink$GroundFrames") (T := F_GF) (N := 11) hx hb hg in_GF t_GF t_GF_ok n_GF hown hK hP hD hS 0 rfl rfl 1 (by decide) (hg _ tw_84) (fun _ h9 => h9) rfl hin rfl (by decide +kernel) rfl rfl (Nat.le_of_ble_eq_true rfl) d_GF_init_9 (fun H locs hP hD hS => ?_)
  have hP : va_P D cls [(h0, .inr (5, [.int 0, .ref q7, .null, .int 0, .int 0, .int 0, .int 0, .int 0, .int 0, .int 0, .int 0])), (q7, .inl (cA 2, 16, .inr (.inl z64)))] H := hP
  have hD : va_D A [(h0, .inr (5, [.int 0, .ref q7, .null, .int 0, .int 0, .int 0, .int 0, .int 0, .int 0, .int 0, .int 0])), (q7, .inl (cA 2, 16, .inr (.inl z64)))] := hD
  refine lv_aload_n hx hb d_GF_init_12 rfl (lv_at hl 0 rfl) ?_
  refine lv_bipush (v := 16) hx hb d_GF_init_13 (by decide) ?_
  refine kq_newa (atype := .boolean) (t0 := 1) (cA := cA 1) (ty := .boolean) (N' := 16) (a0 := (16, .inl z32)) hx hb (hg _ tw_119) rfl hK rfl hP hD hS hA (fun _ => rfl) (by decide) (by decide) (by decide) (Nat.le_of_ble_eq_true rfl) (Nat.le_of_ble_eq_true rfl) d_GF_init_15 (fun q15 H hP hD hS => ?_)
  have hP : va_P D cls [(h0, .inr (5, [.int 0, .ref q7, .null, .int 0, .int 0, .int 0, .int 0, .int 0, .int 0, .int 0, .int 0])), (q7, .inl (cA 2, 16, .inr (.inl z64))), (q15, .inl (cA 1, 16, .inl z32))] H := hP
  have hD : va_D A [(h0, .inr (5, [.int 0, .ref q7, .null, .int 0, .int 0, .int 0, .int 0, .int 0, .int 0, .int 0, .int 0])), (q7, .inl (cA 2, 16, .inr (.inl z64))), (q15, .inl (cA 1, 16, .inl z32))] := hD
  refine va_putF (D := D) (ci := 5) (v := .ref q15) (ty := .array .boolean) (C := "FarLink$GroundFrames") (T := F_GF) (N := 11) hx hb hg in_GF t_GF t_GF_ok n_GF hown hK hP hD hS 0 rfl rfl 2 (by decide) (hg _ tw_85) (fun _ h9 => h9) rfl hin rfl (by decide +kernel) rfl rfl (Nat.le_of_ble_eq_true rfl) d_GF_init_17 (fun H locs hP hD hS => ?_)
  have hP : va_P D cls [(h0, .inr (5, [.int 0, .ref q7, .ref q15, .int 0, .int 0, .int 0, .int 0, .int 0, .int 0, .int 0, .int 0])), (q7, .inl (cA 2, 16, .inr (.inl z64))), (q15, .inl (cA 1, 16, .inl z32))] H := hP
  have hD : va_D A [(h0, .inr (5, [.int 0, .ref q7, .ref q15, .int 0, .int 0, .int 0, .int 0, .int 0, .int 0, .int 0, .int 0])), (q7, .inl (cA 2, 16, .inr (.inl z64))), (q15, .inl (cA 1, 16, .inl z32))] := hD
  refine lv_aload_n hx hb d_GF_init_20 rfl (lv_at hl 0 rfl) ?_
  refine lv_iconst (v := 0) hx hb d_GF_init_21 (by decide) ?_
  refine va_put (D := D) (ci := 5) (v := .int 0) (ty := .int) (C := "FarLink$GroundFrames") (T := F_GF) (N := 11) hx hb hg in_GF t_GF t_GF_ok n_GF hown hK hP hD hS 0 rfl rfl 3 (by decide) (hg _ tw_86) (fun _ h9 => h9) rfl (by decide +kernel) rfl rfl (Nat.le_of_ble_eq_true rfl) d_GF_init_22 (fun H locs hP hD hS => ?_)
  have hP : va_P D cls [(h0, .inr (5, [.int 0, .ref q7, .ref q15, .int 0, .int 0, .int 0, .int 0, .int 0, .int 0, .int 0, .int 0])), (q7, .inl (cA 2, 16, .inr (.inl z64))), (q15, .inl (cA 1, 16, .inl z32))] H := hP
  have hD : va_D A [(h0, .inr (5, [.int 0, .ref q7, .ref q15, .int 0, .int 0, .int 0, .int 0, .int 0, .int 0, .int 0, .int 0])), (q7, .inl (cA 2, 16, .inr (.inl z64))), (q15, .inl (cA 1, 16, .inl z32))] := hD
  refine lv_aload_n hx hb d_GF_init_25 rfl (lv_at hl 0 rfl) ?_
  refine lv_iconst (v := 1) hx hb d_GF_init_26 (by decide) ?_
  refine va_put (D := D) (ci := 5) (v := .int 1) (ty := .int) (C := "FarLink$GroundFrames") (T := F_GF) (N := 11) hx hb hg in_GF t_GF t_GF_ok n_GF hown hK hP hD hS 0 rfl rfl 6 (by decide) (hg _ tw_89) (fun _ h9 => h9) rfl (by decide +kernel) rfl rfl (Nat.le_of_ble_eq_true rfl) d_GF_init_27 (fun H locs hP hD hS => ?_)
  have hP : va_P D cls [(h0, .inr (5, [.int 0, .ref q7, .ref q15, .int 0, .int 0, .int 0, .int 1, .int 0, .int 0, .int 0, .int 0])), (q7, .inl (cA 2, 16, .inr (.inl z64))), (q15, .inl (cA 1, 16, .inl z32))] H := hP
  have hD : va_D A [(h0, .inr (5, [.int 0, .ref q7, .ref q15, .int 0, .int 0, .int 0, .int 1, .int 0, .int 0, .int 0, .int 0])), (q7, .inl (cA 2, 16, .inr (.inl z64))), (q15, .inl (cA 1, 16, .inl z32))] := hD
  refine lv_aload_n hx hb d_GF_init_30 rfl (lv_at hl 0 rfl) ?_
  refine lv_iload_n hx hb d_GF_init_31 rfl (lv_at hl 1 rfl) ?_
  refine va_putF (D := D) (ci := 5) (v := .int x1) (ty := .int) (C := "FarLink$GroundFrames") (T := F_GF) (N := 11) hx hb hg in_GF t_GF t_GF_ok n_GF hown hK hP hD hS 0 rfl rfl 0 (by decide) (hg _ tw_83) (fun _ h9 => h9) rfl hin rfl (by decide +kernel) rfl rfl (Nat.le_of_ble_eq_true rfl) d_GF_init_32 (fun H locs hP hD hS => ?_)
  have hP : va_P D cls [(h0, .inr (5, [.int x1, .ref q7, .ref q15, .int 0, .int 0, .int 0, .int 1, .int 0, .int 0, .int 0, .int 0])), (q7, .inl (cA 2, 16, .inr (.inl z64))), (q15, .inl (cA 1, 16, .inl z32))] H := hP
  have hD : va_D A [(h0, .inr (5, [.int x1, .ref q7, .ref q15, .int 0, .int 0, .int 0, .int 1, .int 0, .int 0, .int 0, .int 0])), (q7, .inl (cA 2, 16, .inr (.inl z64))), (q15, .inl (cA 1, 16, .inl z32))] := hD
  exact W.vret hx hb hr (fun t ht hW => ⟨⟨_, rfl, ⟨q7, q15, rfl⟩, by rw [ht]; exact hP, hD⟩, hS.F ht⟩) hS.2.2 d_GF_init_35
set_option maxHeartbeats 4000000 in
set_option maxRecDepth 100000 in
theorem c_WY_init (l : Launch) {D : va_G} {cA : Nat → ClassId} (h0 sz : Nat) (x1 : Int32) (x2 : Int32) (hz : x1 &&& 1 = x1) : Met l y_WY_init w_WY_init ({ frames := 1, cells := 1, slots := 8, locals := 12 } : Room) (va_Pc [.ref h0, .int x1, .int x2] (cS D (xt cA) xMN sz h0 (.inr (7, [.int 0, .int 0, .null, .long 0, .int 0, .int 0, .int 0, .int 0])))) (va_Qv (fun w1 => ∃ (q : Nat) (f : Nat → Int64), (∀ j, j < 8 → f j = -1) ∧ w1 = [(h0, .inr (7, wy0 x1 x2 q)), (q, .inl (cA 2, 8, .inr (.inl f)))]) (cEn D (va_A [(h0, .inr (7, [.int 0, .int 0, .null, .long 0, .int 0, .int 0, .int 0, .int 0]))] sz)) (va_A [(h0, .inr (7, [.int 0, .int 0, .null, .long 0, .int 0, .int 0, .int 0, .int 0]))] sz)) 1 8 (va_A [(h0, .inr (7, [.int 0, .int 0, .null, .long 0, .int 0, .int 0, .int 0, .int 0]))] sz) := by
  refine Met.ofW (cc := b_WY_init) (maxL := 4) (ret := none) (by decide) rfl ?_
  intro p e s m args below meth c s₁ B hml hv
  obtain ⟨rfl, hsz, hP, hK, hD0, hN, hO⟩ := hv
  have hx := B.exec
  have hb := B.bytes
  have hr := B.returns
  have hts := atoms_spec (ws := w_WY_init) B.pre
  have hg : ∀ w ∈ gw, w.before ([.ref h0, .int x1, .int x2] : List Value).toArray s = true := fun w hw => hts w (List.mem_cons_of_mem _ hw)
  have hown : s.vm.findClass "FarLink$Way" = some m.cls := findClass_of_methodNamed B.named
  have hlocks := B.notSynchronized
  have hin : meth.name = "<init>" := (name_of_methodNamed B.named B.method).1
  subst hsz
  have hD := hD0.self (sz := s.heap.size)
  generalize hAe : va_A [(h0, .inr (7, [.int 0, .int 0, .null, .long 0, .int 0, .int 0, .int 0, .int 0]))] s.heap.size = A at hD ⊢
  have hA : ∀ q : Nat, s.heap.size ≤ q → A q := fun q h => by rw [← hAe]; exact Or.inr h
  have hS : va_S A s.heap s.heap [] := va_S.rf
  have hl := lv_entry ([.ref h0, .int x1, .int x2]) (n := 4) (Nat.le_of_ble_eq_true rfl)
  rw [lg_entry_eq]
  generalize (lg_sl ([.ref h0, .int x1, .int x2]) ++ List.replicate (4 - (lg_sl ([.ref h0, .int x1, .int x2])).length) Slot.unset).toArray = ls at hl ⊢
  have hl : lv_has ls 4 [(0, .ref h0), (1, .int x1), (2, .int x2)] := hl
  refine lv_aload_n hx hb d_WY_init_0 rfl (lv_at hl 0 rfl) ?_
  refine W.objInit hx hb hown (hg _ tw_36) (hg _ tw_21) (hg _ tw_22) rfl (by rw [hml]; exact hl.1) rfl d_WY_init_1 (Nat.le_of_ble_eq_true rfl) (Nat.le_of_ble_eq_true rfl) ?_
  refine W.eq (g2 := F0 m 4 ls []) rfl ?_
  refine lv_aload_n hx hb d_WY_init_4 rfl (lv_at hl 0 rfl) ?_
  refine lv_bipush (v := 8) hx hb d_WY_init_5 (by decide) ?_
  refine kq_newa (atype := .long) (t0 := 2) (cA := cA 2) (ty := .long) (N' := 8) (a0 := (8, .inr (.inl z64))) hx hb (hg _ tw_68) rfl hK rfl hP hD hS hA (fun _ => rfl) (by decide) (by decide) (by decide) (Nat.le_of_ble_eq_true rfl) (Nat.le_of_ble_eq_true rfl) d_WY_init_7 (fun q7 H hP hD hS => ?_)
  have hP : va_P D cls [(h0, .inr (7, [.int 0, .int 0, .null, .long 0, .int 0, .int 0, .int 0, .int 0])), (q7, .inl (cA 2, 8, .inr (.inl z64)))] H := hP
  have hD : va_D A [(h0, .inr (7, [.int 0, .int 0, .null, .long 0, .int 0, .int 0, .int 0, .int 0])), (q7, .inl (cA 2, 8, .inr (.inl z64)))] := hD
  refine va_putF (D := D) (ci := 7) (v := .ref q7) (ty := .array .long) (C := "FarLink$Way") (T := F_WY) (N := 8) hx hb hg in_WY t_WY t_WY_ok n_WY hown hK hP hD hS 0 rfl rfl 2 (by decide) (hg _ tw_40) (fun _ h9 => h9) rfl hin rfl (by decide +kernel) rfl rfl (Nat.le_of_ble_eq_true rfl) d_WY_init_9 (fun H locs hP hD hS => ?_)
  have hP : va_P D cls [(h0, .inr (7, [.int 0, .int 0, .ref q7, .long 0, .int 0, .int 0, .int 0, .int 0])), (q7, .inl (cA 2, 8, .inr (.inl z64)))] H := hP
  have hD : va_D A [(h0, .inr (7, [.int 0, .int 0, .ref q7, .long 0, .int 0, .int 0, .int 0, .int 0])), (q7, .inl (cA 2, 8, .inr (.inl z64)))] := hD
  refine lv_aload_n hx hb d_WY_init_12 rfl (lv_at hl 0 rfl) ?_
  refine lv_iload_n hx hb d_WY_init_13 rfl (lv_at hl 1 rfl) ?_
  refine va_putF (D := D) (ci := 7) (v := .int x1) (ty := .boolean) (C := "FarLink$Way") (T := F_WY) (N := 8) hx hb hg in_WY t_WY t_WY_ok n_WY hown hK hP hD hS 0 rfl rfl 0 (by decide) (hg _ tw_38) (fun _ h9 => h9) rfl hin rfl (by decide +kernel) (congrArg Value.int hz) (fl_zfit hz) (Nat.le_of_ble_eq_true rfl) d_WY_init_14 (fun H locs hP hD hS => ?_)
  have hP : va_P D cls [(h0, .inr (7, [.int x1, .int 0, .ref q7, .long 0, .int 0, .int 0, .int 0, .int 0])), (q7, .inl (cA 2, 8, .inr (.inl z64)))] H := hP
  have hD : va_D A [(h0, .inr (7, [.int x1, .int 0, .ref q7, .long 0, .int 0, .int 0, .int 0, .int 0])), (q7, .inl (cA 2, 8, .inr (.inl z64)))] := hD
  refine lv_aload_n hx hb d_WY_init_17 rfl (lv_at hl 0 rfl) ?_
  refine lv_iload_n hx hb d_WY_init_18 rfl (lv_at hl 2 rfl) ?_
  refine va_putF (D := D) (ci := 7) (v := .int x2) (ty := .int) (C := "FarLink$Way") (T := F_WY) (N := 8) hx hb hg in_WY t_WY t_WY_ok n_WY hown hK hP hD hS 0 rfl rfl 1 (by decide) (hg _ tw_39) (fun _ h9 => h9) rfl hin rfl (by decide +kernel) rfl rfl (Nat.le_of_ble_eq_true rfl) d_WY_init_19 (fun H locs hP hD hS => ?_)
  have hP : va_P D cls [(h0, .inr (7, [.int x1, .int x2, .ref q7, .long 0, .int 0, .int 0, .int 0, .int 0])), (q7, .inl (cA 2, 8, .inr (.inl z64)))] H := hP
  have hD : va_D A [(h0, .inr (7, [.int x1, .int x2, .ref q7, .long 0, .int 0, .int 0, .int 0, .int 0])), (q7, .inl (cA 2, 8, .inr (.inl z64)))] := hD
  refine lv_iconst (v := 0) hx hb d_WY_init_22 (by decide) ?_
  refine lv_istore_n (lv' := [(3, .int 0), (0, .ref h0), (1, .int x1), (2, .int x2)]) hx hb d_WY_init_23 rfl hl (by decide) rfl (fun ls hl => ?_)
  have lp : ∀ (k i : Nat) (f : Nat → Int64) (ls : Array Slot) (H : Heap) (locs : List Loc), i + k = 8 → (∀ j, j < i → f j = -1) → lv_has ls 4 [(0, .ref h0), (1, .int x1), (2, .int x2), (3, .int (nI i))] → va_P D cls [(h0, .inr (7, [.int x1, .int x2, .ref q7, .long 0, .int 0, .int 0, .int 0, .int 0])), (q7, .inl (cA 2, 8, .inr (.inl f)))] H → va_D A [(h0, .inr (7, [.int x1, .int x2, .ref q7, .long 0, .int 0, .int 0, .int 0, .int 0])), (q7, .inl (cA 2, 8, .inr (.inl f)))] → va_S A s.heap H locs → (∀ (f : Nat → Int64) (ls : Array Slot) (H : Heap) (locs : List Loc), (∀ j, j < 8 → f j = -1) → va_P D cls [(h0, .inr (7, [.int x1, .int x2, .ref q7, .long 0, .int 0, .int 0, .int 0, .int 0])), (q7, .inl (cA 2, 8, .inr (.inl f)))] H → va_D A [(h0, .inr (7, [.int x1, .int x2, .ref q7, .long 0, .int 0, .int 0, .int 0, .int 0])), (q7, .inl (cA 2, 8, .inr (.inl f)))] → va_S A s.heap H locs → W p l e (headSpec w_WY_init ({ frames := 1, cells := 1, slots := 8, locals := 12 } : Room)).room s m ([.ref h0, .int x1, .int x2] : List Value).toArray below meth c H locs (1) (8) (MQ below (va_Qv (fun w1 => ∃ (q : Nat) (f : Nat → Int64), (∀ j, j < 8 → f j = -1) ∧ w1 = [(h0, .inr (7, wy0 x1 x2 q)), (q, .inl (cA 2, 8, .inr (.inl f)))]) (cEn D A) A) ([.ref h0, .int x1, .int x2] : List Value).toArray s 1 8 A) (F0 m 45 ls [])) → W p l e (headSpec w_WY_init ({ frames := 1, cells := 1, slots := 8, locals := 12 } : Room)).room s m ([.ref h0, .int x1, .int x2] : List Value).toArray below meth c H locs (1) (8) (MQ below (va_Qv (fun w1 => ∃ (q : Nat) (f : Nat → Int64), (∀ j, j < 8 → f j = -1) ∧ w1 = [(h0, .inr (7, wy0 x1 x2 q)), (q, .inl (cA 2, 8, .inr (.inl f)))]) (cEn D A) A) ([.ref h0, .int x1, .int x2] : List Value).toArray s 1 8 A) (F0 m 24 ls []) := by
    intro k
    induction k with
    | zero =>
      intro i f ls H locs hik hf hl hP hD hS kk
      refine lv_iload_n hx hb d_WY_init_24 rfl (lv_at hl 3 rfl) ?_
      refine lv_bipush (v := 8) hx hb d_WY_init_25 (by decide) ?_
      refine lv_icmp_ge (tgt := 45) hx hb d_WY_init_27 (by decide) (fun _ => ?_) (fun h => absurd (fl_le (b := 8) rfl (by omega) (by omega)) h)
      exact kk f ls _ _ (fun j hj => hf j (by omega)) hP hD hS
    | succ k ih =>
      intro i f ls H locs hik hf hl hP hD hS kk
      refine lv_iload_n hx hb d_WY_init_24 rfl (lv_at hl 3 rfl) ?_
      refine lv_bipush (v := 8) hx hb d_WY_init_25 (by decide) ?_
      refine lv_icmp_ge (tgt := 45) hx hb d_WY_init_27 (by decide) (fun h => absurd h (fl_nle (b := 8) rfl (by omega) (by decide))) (fun _ => ?_)
      refine lv_aload_n hx hb d_WY_init_30 rfl (lv_at hl 0 rfl) ?_
      refine va_get (D := D) (ci := 7) (v := .ref q7) (C := "FarLink$Way") (T := F_WY) (N := 8) hx hb hg in_WY hown hK hP 0 rfl rfl 2 (by decide) (hg _ tw_40) (fun _ h9 => h9) rfl d_WY_init_31 ?_
      refine lv_iload_n hx hb d_WY_init_34 rfl (lv_at hl 3 rfl) ?_
      refine lv_ldc2 (v := -1) hx hb hown (hg _ tw_37) d_WY_init_35 ?_
      refine va_last hx hb hK hP hD hS 1 2 rfl rfl (vp_in_nI (show i < 8 by omega) (by decide)) d_WY_init_38 (fun H locs hP hD hS => ?_)
      refine lv_iinc (k := 3) (v := nI (i + 1)) (lv' := [(3, .int (nI (i + 1))), (0, .ref h0), (1, .int x1), (2, .int x2)]) hx hb d_WY_init_39 hl rfl (fl_inc _) (by decide) rfl (fun ls hl => ?_)
      refine lv_goto (tgt := 24) hx hb d_WY_init_42 (by decide) ?_
      have hl := lv_sub (l' := [(0, .ref h0), (1, .int x1), (2, .int x2), (3, .int (nI (i + 1)))]) hl [1, 2, 3, 0] rfl
      refine ih (i + 1) (vp_updL f (nI i).toNatClampNeg (-1)) ls _ _ (by omega) (fun j hj => ?_) hl hP hD hS kk
      rw [nI_clamp (by omega)]
      by_cases e : j = i
      · simp [vp_updL, e]
      · simp only [vp_updL, if_neg e]
        exact hf j (by omega)
  have hl := lv_sub (l' := [(0, .ref h0), (1, .int x1), (2, .int x2), (3, .int (nI 0))]) hl [1, 2, 3, 0] rfl
  refine lp 8 0 z64 ls _ _ rfl (fun j hj => absurd hj (Nat.not_lt_zero _)) hl hP hD hS (fun f ls H locs hf hP hD hS => ?_)
  exact W.vret hx hb hr (fun t ht hW => ⟨⟨_, rfl, ⟨q7, f, hf, rfl⟩, by rw [ht]; exact hP, hD⟩, hS.F ht⟩) hS.2.2 d_WY_init_45
theorem hd_CR_init : y_CR_init.cls ≠ "java/lang/invoke/MethodHandle" ∧ y_CR_init.cls ≠ "java/lang/invoke/VarHandle" ∧ (parseMethodDescriptor y_CR_init.desc).map (fun d => d.parameters.length) = some 1 := by decide +kernel
theorem ki_CR {R : Room} {s : State} {args : Array Value} {c0 : Cond} {own : String} {index : Nat} (hts : ∀ w ∈ c0 :: gw, w.before args s = true) (hl : (Cond.methodLink own index y_CR_init).before args s = true) (hR : 1 + 1 ≤ R.frames ∧ 8 + (2 + 11) + 12 ≤ R.locals) : CallB R s args own index y_CR_init b_CR_init 2 none w_CR_init ({ frames := 1, cells := 1, slots := 16, locals := 12 } : Room) 1 16 1 ∧ y_CR_init.name = "<init>" ∧ (Cond.instanceMethod y_CR_init).before args s = true := ⟨callB_of 1 hts (gw_in tw_213) rfl rfl rfl (hts _ (List.mem_cons_of_mem _ tw_9)) hl hd_CR_init hR, rfl, hts _ (List.mem_cons_of_mem _ tw_212)⟩
theorem hd_TR_init : y_TR_init.cls ≠ "java/lang/invoke/MethodHandle" ∧ y_TR_init.cls ≠ "java/lang/invoke/VarHandle" ∧ (parseMethodDescriptor y_TR_init.desc).map (fun d => d.parameters.length) = some 2 := by decide +kernel
theorem ki_TR {R : Room} {s : State} {args : Array Value} {c0 : Cond} {own : String} {index : Nat} (hts : ∀ w ∈ c0 :: gw, w.before args s = true) (hl : (Cond.methodLink own index y_TR_init).before args s = true) (hR : 1 + 1 ≤ R.frames ∧ 8 + (3 + 11) + 12 ≤ R.locals) : CallB R s args own index y_TR_init b_TR_init 3 none w_TR_init ({ frames := 1, cells := 1, slots := 16, locals := 12 } : Room) 1 16 2 ∧ y_TR_init.name = "<init>" ∧ (Cond.instanceMethod y_TR_init).before args s = true := ⟨callB_of 2 hts (gw_in tw_123) rfl rfl rfl (hts _ (List.mem_cons_of_mem _ tw_6)) hl hd_TR_init hR, rfl, hts _ (List.mem_cons_of_mem _ tw_122)⟩
theorem hd_GF_init : y_GF_init.cls ≠ "java/lang/invoke/MethodHandle" ∧ y_GF_init.cls ≠ "java/lang/invoke/VarHandle" ∧ (parseMethodDescriptor y_GF_init.desc).map (fun d => d.parameters.length) = some 1 := by decide +kernel
theorem ki_GF {R : Room} {s : State} {args : Array Value} {c0 : Cond} {own : String} {index : Nat} (hts : ∀ w ∈ c0 :: gw, w.before args s = true) (hl : (Cond.methodLink own index y_GF_init).before args s = true) (hR : 1 + 1 ≤ R.frames ∧ 8 + (2 + 11) + 12 ≤ R.locals) : CallB R s args own index y_GF_init b_GF_init 2 none w_GF_init ({ frames := 1, cells := 2, slots := 32, locals := 12 } : Room) 2 32 1 ∧ y_GF_init.name = "<init>" ∧ (Cond.instanceMethod y_GF_init).before args s = true := ⟨callB_of 1 hts (gw_in tw_81) rfl rfl rfl (hts _ (List.mem_cons_of_mem _ tw_5)) hl hd_GF_init hR, rfl, hts _ (List.mem_cons_of_mem _ tw_80)⟩
theorem hd_WY_init : y_WY_init.cls ≠ "java/lang/invoke/MethodHandle" ∧ y_WY_init.cls ≠ "java/lang/invoke/VarHandle" ∧ (parseMethodDescriptor y_WY_init.desc).map (fun d => d.parameters.length) = some 2 := by decide +kernel
theorem ki_WY {R : Room} {s : State} {args : Array Value} {c0 : Cond} {own : String} {index : Nat} (hts : ∀ w ∈ c0 :: gw, w.before args s = true) (hl : (Cond.methodLink own index y_WY_init).before args s = true) (hR : 1 + 1 ≤ R.frames ∧ 8 + (4 + 11) + 12 ≤ R.locals) : CallB R s args own index y_WY_init b_WY_init 4 none w_WY_init ({ frames := 1, cells := 1, slots := 8, locals := 12 } : Room) 1 8 2 ∧ y_WY_init.name = "<init>" ∧ (Cond.instanceMethod y_WY_init).before args s = true := ⟨callB_of 2 hts (gw_in tw_35) rfl rfl rfl (hts _ (List.mem_cons_of_mem _ tw_3)) hl hd_WY_init hR, rfl, hts _ (List.mem_cons_of_mem _ tw_34)⟩
