/-- pairs of cells: an object and its words -/
def pP (E : Nat → Nat → va_E) (B : va_E) (r d : Nat → Nat) : Nat → va_W
  | 0 => []
  | i + 1 => pP E B r d i ++ [(r i, E i (d i)), (d i, B)]
theorem pP_to {E : Nat → Nat → va_E} {B : va_E} {r d r' d' : Nat → Nat} : ∀ i : Nat, (∀ j, j < i → r j = r' j ∧ d j = d' j) → pP E B r d i = pP E B r' d' i
  | 0, _ => rfl
  | i + 1, h => by
    show pP E B r d i ++ _ = pP E B r' d' i ++ _
    rw [pP_to i (fun j hj => h j (by omega)), (h i (by omega)).1, (h i (by omega)).2]
theorem pP_step {E : Nat → Nat → va_E} {B : va_E} {r d : Nat → Nat} {X : va_W} {i a b : Nat} : (X ++ pP E B r d i) ++ [(a, E i b), (b, B)] = X ++ pP E B (va_up r i a) (va_up d i b) (i + 1) := by
  rw [List.append_assoc]
  show _ = X ++ (pP E B (va_up r i a) (va_up d i b) i ++ [(va_up r i a i, E i (va_up d i b i)), (va_up d i b i, B)])
  rw [va_up_self, va_up_self, pP_to (r := va_up r i a) (d := va_up d i b) (r' := r) (d' := d) i (fun j hj => ⟨va_up_ne _ _ (by omega), va_up_ne _ _ (by omega)⟩)]
theorem pP_f {f : Nat → Option Nat} {r : Nat → Nat} {i a : Nat} (hi : i < 16) (hf : ∀ j, j < i → f j = some (r j)) : ∀ j, j < i + 1 → va_up f (nI i).toNatClampNeg (some a) j = some (va_up r i a j) := fun j hj => by
  rw [nI_clamp (by omega)]
  by_cases e : j = i
  · rw [e, va_up_self, va_up_self]
  · rw [va_up_ne _ _ e, va_up_ne _ _ e]
    exact hf j (by omega)
set_option maxHeartbeats 4000000 in
set_option maxRecDepth 100000 in
theorem c_CF_init (l : Launch) {D : va_G} {cA : Nat → ClassId} (h0 sz : Nat) : Met l y_CF_init w_CF_init ({ frames := 1, cells := 0, slots := 0, locals := 12 } : Room) (va_Pc [.ref h0] (cS D (xt cA) xMN sz h0 (.inr (2, [.int 0, .int 0, .int 0])))) (va_Qv (fun w1 => w1 = [(h0, .inr (2, [.int 0, .int 0, .int 0]))]) (cEn D (va_A [(h0, .inr (2, [.int 0, .int 0, .int 0]))] sz)) (va_A [(h0, .inr (2, [.int 0, .int 0, .int 0]))] sz)) 0 0 (va_A [(h0, .inr (2, [.int 0, .int 0, .int 0]))] sz) := by
  refine Met.ofW (cc := b_CF_init) (maxL := 1) (ret := none) (by decide) rfl ?_
  intro p e s m args below meth c s₁ B hml hv
  obtain ⟨rfl, hsz, hP, hK, hD0, hN, hO⟩ := hv
  have hx := B.exec
  have hb := B.bytes
  have hr := B.returns
  have hts := atoms_spec (ws := w_CF_init) B.pre
  have hg : ∀ w ∈ gw, w.before ([.ref h0] : List Value).toArray s = true := fun w hw => hts w (List.mem_cons_of_mem _ hw)
  have hown : s.vm.findClass "FarLink$CraftFrames" = some m.cls := findClass_of_methodNamed B.named
  have hlocks := B.notSynchronized
  have hin : meth.name = "<init>" := (name_of_methodNamed B.named B.method).1
  subst hsz
  have hD := hD0.self (sz := s.heap.size)
  generalize hAe : va_A [(h0, .inr (2, [.int 0, .int 0, .int 0]))] s.heap.size = A at hD ⊢
  have hA : ∀ q : Nat, s.heap.size ≤ q → A q := fun q h => by rw [← hAe]; exact Or.inr h
  have hS : va_S A s.heap s.heap [] := va_S.rf
  have hl := lv_entry ([.ref h0]) (n := 1) (Nat.le_of_ble_eq_true rfl)
  rw [lg_entry_eq]
  generalize (lg_sl ([.ref h0]) ++ List.replicate (1 - (lg_sl ([.ref h0])).length) Slot.unset).toArray = ls at hl ⊢
  have hl : lv_has ls 1 [(0, .ref h0)] := hl
  refine lv_aload_n hx hb d_CF_init_0 rfl (lv_at hl 0 rfl) ?_
  refine W.objInit hx hb hown (hg _ tw_196) (hg _ tw_21) (hg _ tw_22) rfl (by rw [hml]; exact hl.1) rfl d_CF_init_1 (Nat.le_of_ble_eq_true rfl) (Nat.le_of_ble_eq_true rfl) ?_
  refine W.eq (g2 := F0 m 4 ls []) rfl ?_
  exact W.vret hx hb hr (fun t ht hW => ⟨⟨_, rfl, rfl, by rw [ht]; exact hP, hD⟩, hS.F ht⟩) hS.2.2 d_CF_init_4
set_option maxHeartbeats 4000000 in
set_option maxRecDepth 100000 in
theorem c_GR_init (l : Launch) {D : va_G} {cA : Nat → ClassId} (h0 sz : Nat) (x1 : Int32) : Met l y_GR_init w_GR_init ({ frames := 2, cells := 36, slots := 555, locals := 34 } : Room) (va_Pc [.ref h0, .int x1] (cS D (xt cA) xMN sz h0 (.inr (4, [.null, .null, .int 0])))) (va_Qv (fun w1 => ∃ (q7 q14 q1 q2 : Nat) (f : Nat → Option Nat) (r d : Nat → Nat), (∀ j, j < 16 → f j = some (r j)) ∧ w1 = [(h0, .inr (4, [.ref q14, .ref q7, .int 0])), (q7, .inl (cA 4, 16, .inr (.inr (.inr (.inr f))))), (q14, .inr (5, gf0 x1 q1 q2)), (q1, .inl (cA 2, 16, .inr (.inl z64))), (q2, .inl (cA 1, 16, .inl z32))] ++ pP (fun t q => .inr (6, tr0 (nI t) x1 q)) (.inl (cA 0, 16, .inl z32)) r d 16) (cEn D (va_A [(h0, .inr (4, [.null, .null, .int 0]))] sz)) (va_A [(h0, .inr (4, [.null, .null, .int 0]))] sz)) 36 555 (va_A [(h0, .inr (4, [.null, .null, .int 0]))] sz) := by
  refine Met.ofW (cc := b_GR_init) (maxL := 3) (ret := none) (by decide) rfl ?_
  intro p e s m args below meth c s₁ B hml hv
  obtain ⟨rfl, hsz, hP, hK, hD0, hN, hO⟩ := hv
  have hx := B.exec
  have hb := B.bytes
  have hr := B.returns
  have hts := atoms_spec (ws := w_GR_init) B.pre
  have hg : ∀ w ∈ gw, w.before ([.ref h0, .int x1] : List Value).toArray s = true := fun w hw => hts w (List.mem_cons_of_mem _ hw)
  have hown : s.vm.findClass "FarLink$Ground" = some m.cls := findClass_of_methodNamed B.named
  have hlocks := B.notSynchronized
  have hin : meth.name = "<init>" := (name_of_methodNamed B.named B.method).1
  subst hsz
  have hD := hD0.self (sz := s.heap.size)
  generalize hAe : va_A [(h0, .inr (4, [.null, .null, .int 0]))] s.heap.size = A at hD ⊢
  have hA : ∀ q : Nat, s.heap.size ≤ q → A q := fun q h => by rw [← hAe]; exact Or.inr h
  have hS : va_S A s.heap s.heap [] := va_S.rf
  have hl := lv_entry ([.ref h0, .int x1]) (n := 3) (Nat.le_of_ble_eq_true rfl)
  rw [lg_entry_eq]
  generalize (lg_sl ([.ref h0, .int x1]) ++ List.replicate (3 - (lg_sl ([.ref h0, .int x1])).length) Slot.unset).toArray = ls at hl ⊢
  have hl : lv_has ls 3 [(0, .ref h0), (1, .int x1)] := hl
  refine lv_aload_n hx hb d_GR_init_0 rfl (lv_at hl 0 rfl) ?_
  refine W.objInit hx hb hown (hg _ tw_74) (hg _ tw_21) (hg _ tw_22) rfl (by rw [hml]; exact hl.1) rfl d_GR_init_1 (Nat.le_of_ble_eq_true rfl) (Nat.le_of_ble_eq_true rfl) ?_
  refine W.eq (g2 := F0 m 4 ls []) rfl ?_
  refine lv_aload_n hx hb d_GR_init_4 rfl (lv_at hl 0 rfl) ?_
  refine lv_bipush (v := 16) hx hb d_GR_init_5 (by decide) ?_
  refine kq_newq (C := "FarLink$Transaction") (t0 := 4) (cA := cA 4) (N' := 16) hx hb hown (hg _ tw_75) (hO.1) hK rfl hP hD hS hA (by decide) (by decide) (by decide) (Nat.le_of_ble_eq_true rfl) (Nat.le_of_ble_eq_true rfl) d_GR_init_7 (fun q7 H hP hD hS => ?_)
  have hP : va_P D cls [(h0, .inr (4, [.null, .null, .int 0])), (q7, .inl (cA 4, 16, .inr (.inr (.inr (.inr (fun _ => none))))))] H := hP
  have hD : va_D A [(h0, .inr (4, [.null, .null, .int 0])), (q7, .inl (cA 4, 16, .inr (.inr (.inr (.inr (fun _ => none))))))] := hD
  refine va_putF (D := D) (ci := 4) (v := .ref q7) (ty := .array (.object "FarLink$Transaction")) (C := "FarLink$Ground") (T := F_GR) (N := 3) hx hb hg in_GR t_GR t_GR_ok n_GR hown hK hP hD hS 0 rfl rfl 1 (by decide) (hg _ tw_175) (fun _ h9 => h9) rfl hin rfl (by decide +kernel) rfl rfl (Nat.le_of_ble_eq_true rfl) d_GR_init_10 (fun H locs hP hD hS => ?_)
  have hP : va_P D cls [(h0, .inr (4, [.null, .ref q7, .int 0])), (q7, .inl (cA 4, 16, .inr (.inr (.inr (.inr (fun _ => none))))))] H := hP
  have hD : va_D A [(h0, .inr (4, [.null, .ref q7, .int 0])), (q7, .inl (cA 4, 16, .inr (.inr (.inr (.inr (fun _ => none))))))] := hD
  refine lv_aload_n hx hb d_GR_init_13 rfl (lv_at hl 0 rfl) ?_
  refine va_new (ci := 5) (fs := [.int 0, .null, .null, .int 0, .int 0, .int 0, .int 0, .int 0, .int 0, .int 0, .int 0]) (C := "FarLink$GroundFrames") (T := F_GF) (N := 11) hx hb hg in_GF t_GF t_GF_ok hown (hg _ tw_77) (hg _ tw_78) (hg _ tw_5) hK hP hD hS hA rfl (by decide) (Nat.le_of_ble_eq_true rfl) (Nat.le_of_ble_eq_true rfl) d_GR_init_14 (fun q14 H hP hD hS => ?_)
  refine lv_dup hx hb d_GR_init_17 rfl ?_
  refine lv_iload_n hx hb d_GR_init_18 rfl (lv_at hl 1 rfl) ?_
  refine kq_init (w := [(h0, .inr (4, [.null, .ref q7, .int 0])), (q7, .inl (cA 4, 16, .inr (.inr (.inr (.inr (fun _ => none))))))]) (va_runI (As := [.int x1]) (rest := [.ref q14, .ref h0]) ⟨hx, hb, hml, hown, hts⟩ (c_GF_init l q14 H.size x1) (ki_GF hts (hg _ tw_79) ⟨Nat.le_of_ble_eq_true rfl, Nat.le_of_ble_eq_true rfl⟩) (cS.pre (w := [(h0, .inr (4, [.null, .ref q7, .int 0])), (q7, .inl (cA 4, 16, .inr (.inr (.inr (.inr (fun _ => none))))))]) hK hN hO hP) rfl rfl hl.1 rfl (lv_room (Nat.le_of_ble_eq_true rfl)) d_GR_init_19 ⟨Nat.le_of_ble_eq_true rfl, Nat.le_of_ble_eq_true rfl⟩) hP hD hS hA (fun w1 H locs hw hP hD hS => ?_)
  obtain ⟨q1, q2, rfl⟩ := hw
  have hP : va_P D cls [(h0, .inr (4, [.null, .ref q7, .int 0])), (q7, .inl (cA 4, 16, .inr (.inr (.inr (.inr (fun _ => none)))))), (q14, .inr (5, gf0 x1 q1 q2)), (q1, .inl (cA 2, 16, .inr (.inl z64))), (q2, .inl (cA 1, 16, .inl z32))] H := hP
  have hD : va_D A [(h0, .inr (4, [.null, .ref q7, .int 0])), (q7, .inl (cA 4, 16, .inr (.inr (.inr (.inr (fun _ => none)))))), (q14, .inr (5, gf0 x1 q1 q2)), (q1, .inl (cA 2, 16, .inr (.inl z64))), (q2, .inl (cA 1, 16, .inl z32))] := hD
  refine va_putF (D := D) (ci := 4) (v := .ref q14) (ty := .object "FarLink$GroundFrames") (C := "FarLink$Ground") (T := F_GR) (N := 3) hx hb hg in_GR t_GR t_GR_ok n_GR hown hK hP hD hS 0 rfl rfl 0 (by decide) (hg _ tw_173) (fun _ h9 => h9) rfl hin rfl (by decide +kernel) rfl rfl (Nat.le_of_ble_eq_true rfl) d_GR_init_22 (fun H locs hP hD hS => ?_)
  have hP : va_P D cls [(h0, .inr (4, [.ref q14, .ref q7, .int 0])), (q7, .inl (cA 4, 16, .inr (.inr (.inr (.inr (fun _ => none)))))), (q14, .inr (5, gf0 x1 q1 q2)), (q1, .inl (cA 2, 16, .inr (.inl z64))), (q2, .inl (cA 1, 16, .inl z32))] H := hP
  have hD : va_D A [(h0, .inr (4, [.ref q14, .ref q7, .int 0])), (q7, .inl (cA 4, 16, .inr (.inr (.inr (.inr (fun _ => none)))))), (q14, .inr (5, gf0 x1 q1 q2)), (q1, .inl (cA 2, 16, .inr (.inl z64))), (q2, .inl (cA 1, 16, .inl z32))] := hD
  refine lv_iconst (v := 0) hx hb d_GR_init_25 (by decide) ?_
  refine lv_istore_n (lv' := [(2, .int 0), (0, .ref h0), (1, .int x1)]) hx hb d_GR_init_26 rfl hl (by decide) rfl (fun ls hl => ?_)
  have lp : ∀ (k i : Nat) (f : Nat → Option Nat) (r d : Nat → Nat) (ls : Array Slot) (H : Heap) (locs : List Loc), i + k = 16 → (∀ j, j < i → f j = some (r j)) → lv_has ls 3 [(0, .ref h0), (1, .int x1), (2, .int (nI i))] → va_P D cls ([(h0, .inr (4, [.ref q14, .ref q7, .int 0])), (q7, .inl (cA 4, 16, .inr (.inr (.inr (.inr f))))), (q14, .inr (5, gf0 x1 q1 q2)), (q1, .inl (cA 2, 16, .inr (.inl z64))), (q2, .inl (cA 1, 16, .inl z32))] ++ pP (fun t q => .inr (6, tr0 (nI t) x1 q)) (.inl (cA 0, 16, .inl z32)) r d i) H → va_D A ([(h0, .inr (4, [.ref q14, .ref q7, .int 0])), (q7, .inl (cA 4, 16, .inr (.inr (.inr (.inr f))))), (q14, .inr (5, gf0 x1 q1 q2)), (q1, .inl (cA 2, 16, .inr (.inl z64))), (q2, .inl (cA 1, 16, .inl z32))] ++ pP (fun t q => .inr (6, tr0 (nI t) x1 q)) (.inl (cA 0, 16, .inl z32)) r d i) → va_S A s.heap H locs → (∀ (f : Nat → Option Nat) (r d : Nat → Nat) (ls : Array Slot) (H : Heap) (locs : List Loc), (∀ j, j < 16 → f j = some (r j)) → va_P D cls ([(h0, .inr (4, [.ref q14, .ref q7, .int 0])), (q7, .inl (cA 4, 16, .inr (.inr (.inr (.inr f))))), (q14, .inr (5, gf0 x1 q1 q2)), (q1, .inl (cA 2, 16, .inr (.inl z64))), (q2, .inl (cA 1, 16, .inl z32))] ++ pP (fun t q => .inr (6, tr0 (nI t) x1 q)) (.inl (cA 0, 16, .inl z32)) r d 16) H → va_D A ([(h0, .inr (4, [.ref q14, .ref q7, .int 0])), (q7, .inl (cA 4, 16, .inr (.inr (.inr (.inr f))))), (q14, .inr (5, gf0 x1 q1 q2)), (q1, .inl (cA 2, 16, .inr (.inl z64))), (q2, .inl (cA 1, 16, .inl z32))] ++ pP (fun t q => .inr (6, tr0 (nI t) x1 q)) (.inl (cA 0, 16, .inl z32)) r d 16) → va_S A s.heap H locs → W p l e (headSpec w_GR_init ({ frames := 2, cells := 36, slots := 555, locals := 34 } : Room)).room s m ([.ref h0, .int x1] : List Value).toArray below meth c H locs (4 + 2 * 16) (59 + 31 * 16) (MQ below (va_Qv (fun w1 => ∃ (q7 q14 q1 q2 : Nat) (f : Nat → Option Nat) (r d : Nat → Nat), (∀ j, j < 16 → f j = some (r j)) ∧ w1 = [(h0, .inr (4, [.ref q14, .ref q7, .int 0])), (q7, .inl (cA 4, 16, .inr (.inr (.inr (.inr f))))), (q14, .inr (5, gf0 x1 q1 q2)), (q1, .inl (cA 2, 16, .inr (.inl z64))), (q2, .inl (cA 1, 16, .inl z32))] ++ pP (fun t q => .inr (6, tr0 (nI t) x1 q)) (.inl (cA 0, 16, .inl z32)) r d 16) (cEn D A) A) ([.ref h0, .int x1] : List Value).toArray s 36 555 A) (F0 m 54 ls [])) → W p l e (headSpec w_GR_init ({ frames := 2, cells := 36, slots := 555, locals := 34 } : Room)).room s m ([.ref h0, .int x1] : List Value).toArray below meth c H locs (4 + 2 * i) (59 + 31 * i) (MQ below (va_Qv (fun w1 => ∃ (q7 q14 q1 q2 : Nat) (f : Nat → Option Nat) (r d : Nat → Nat), (∀ j, j < 16 → f j = some (r j)) ∧ w1 = [(h0, .inr (4, [.ref q14, .ref q7, .int 0])), (q7, .inl (cA 4, 16, .inr (.inr (.inr (.inr f))))), (q14, .inr (5, gf0 x1 q1 q2)), (q1, .inl (cA 2, 16, .inr (.inl z64))), (q2, .inl (cA 1, 16, .inl z32))] ++ pP (fun t q => .inr (6, tr0 (nI t) x1 q)) (.inl (cA 0, 16, .inl z32)) r d 16) (cEn D A) A) ([.ref h0, .int x1] : List Value).toArray s 36 555 A) (F0 m 27 ls []) := by
    intro k
    induction k with
    | zero =>
      intro i f r d ls H locs hik hf hl hP hD hS kk
      have hi : i = 16 := by omega
      subst hi
      refine lv_iload_n hx hb d_GR_init_27 rfl (lv_at hl 2 rfl) ?_
      refine lv_bipush (v := 16) hx hb d_GR_init_28 (by decide) ?_
      refine lv_icmp_ge (tgt := 54) hx hb d_GR_init_30 (by decide) (fun _ => ?_) (fun h => absurd (fl_le (b := 16) rfl (by omega) (by omega)) h)
      exact kk f r d ls _ _ hf hP hD hS
    | succ k ih =>
      intro i f r d ls H locs hik hf hl hP hD hS kk
      have hi : i < 16 := by omega
      refine lv_iload_n hx hb d_GR_init_27 rfl (lv_at hl 2 rfl) ?_
      refine lv_bipush (v := 16) hx hb d_GR_init_28 (by decide) ?_
      refine lv_icmp_ge (tgt := 54) hx hb d_GR_init_30 (by decide) (fun h => absurd h (fl_nle (b := 16) rfl (by omega) (by decide))) (fun _ => ?_)
      refine lv_aload_n hx hb d_GR_init_33 rfl (lv_at hl 0 rfl) ?_
      refine va_get (D := D) (ci := 4) (v := .ref q7) (C := "FarLink$Ground") (T := F_GR) (N := 3) hx hb hg in_GR hown hK hP 0 rfl rfl 1 (by decide) (hg _ tw_175) (fun _ h9 => h9) rfl d_GR_init_34 ?_
      refine lv_iload_n hx hb d_GR_init_37 rfl (lv_at hl 2 rfl) ?_
      refine va_new (ci := 6) (fs := [.int 0, .int 0, .null, .int 0, .int 0, .int 0, .int 0, .int 0, .int 0, .int 0, .int 0, .int 0, .int 0, .int 0, .int 0]) (C := "FarLink$Transaction") (T := F_TR) (N := 15) hx hb hg in_TR t_TR t_TR_ok hown (hg _ tw_75) (hg _ tw_120) (hg _ tw_6) hK hP hD hS hA rfl (by decide) (show 4 + 2 * i + 1 ≤ 36 by omega) (show 59 + 31 * i + 15 ≤ 555 by omega) d_GR_init_38 (fun qn H hP hD hS => ?_)
      refine lv_dup hx hb d_GR_init_41 rfl ?_
      refine lv_iload_n hx hb d_GR_init_42 rfl (lv_at hl 2 rfl) ?_
      refine lv_iload_n hx hb d_GR_init_43 rfl (lv_at hl 1 rfl) ?_
      refine kq_init (va_runI (As := [.int (nI i), .int x1]) (rest := [.ref qn, .int (nI i), .ref q7]) ⟨hx, hb, hml, hown, hts⟩ (c_TR_init l qn H.size (nI i) x1) (ki_TR hts (hg _ tw_121) ⟨Nat.le_of_ble_eq_true rfl, Nat.le_of_ble_eq_true rfl⟩) (cS.pre hK hN hO hP) rfl rfl hl.1 rfl (lv_room (Nat.le_of_ble_eq_true rfl)) d_GR_init_44 ⟨(show 4 + 2 * i + 1 + 1 ≤ 36 by omega), (show 59 + 31 * i + 15 + 16 ≤ 555 by omega)⟩) hP hD hS hA (fun w1 H locs hw hP hD hS => ?_)
      obtain ⟨qw, rfl⟩ := hw
      refine va_astq hx hb hK hP hD hS 1 4 ([(h0, .inr (4, [.ref q14, .ref q7, .int 0])), (q7, .inl (cA 4, 16, .inr (.inr (.inr (.inr f))))), (q14, .inr (5, gf0 x1 q1 q2)), (q1, .inl (cA 2, 16, .inr (.inl z64))), (q2, .inl (cA 1, 16, .inl z32))] ++ pP (fun t q => .inr (6, tr0 (nI t) x1 q)) (.inl (cA 0, 16, .inl z32)) r d i : va_W).length 6 (r := ("FarLink$Transaction", F_TR, 15)) rfl rfl kq_end rfl (vp_in_nI hi (by decide)) d_GR_init_47 (fun H locs hP hD hS => ?_)
      have hP : va_P D cls (([(h0, .inr (4, [.ref q14, .ref q7, .int 0])), (q7, .inl (cA 4, 16, .inr (.inr (.inr (.inr (va_up f (nI i).toNatClampNeg (some qn))))))), (q14, .inr (5, gf0 x1 q1 q2)), (q1, .inl (cA 2, 16, .inr (.inl z64))), (q2, .inl (cA 1, 16, .inl z32))] ++ pP (fun t q => .inr (6, tr0 (nI t) x1 q)) (.inl (cA 0, 16, .inl z32)) r d i) ++ [(qn, .inr (6, tr0 (nI i) x1 qw)), (qw, .inl (cA 0, 16, .inl z32))]) H := hP
      have hD : va_D A (([(h0, .inr (4, [.ref q14, .ref q7, .int 0])), (q7, .inl (cA 4, 16, .inr (.inr (.inr (.inr (va_up f (nI i).toNatClampNeg (some qn))))))), (q14, .inr (5, gf0 x1 q1 q2)), (q1, .inl (cA 2, 16, .inr (.inl z64))), (q2, .inl (cA 1, 16, .inl z32))] ++ pP (fun t q => .inr (6, tr0 (nI t) x1 q)) (.inl (cA 0, 16, .inl z32)) r d i) ++ [(qn, .inr (6, tr0 (nI i) x1 qw)), (qw, .inl (cA 0, 16, .inl z32))]) := hD
      rw [pP_step (E := fun t q => .inr (6, tr0 (nI t) x1 q)) (a := qn) (b := qw)] at hP hD
      refine lv_iinc (k := 2) (v := nI (i + 1)) (lv' := [(2, .int (nI (i + 1))), (0, .ref h0), (1, .int x1)]) hx hb d_GR_init_48 hl rfl (fl_inc _) (by decide) rfl (fun ls hl => ?_)
      refine lv_goto (tgt := 27) hx hb d_GR_init_51 (by decide) ?_
      have hl := lv_sub (l' := [(0, .ref h0), (1, .int x1), (2, .int (nI (i + 1)))]) hl [1, 2, 0] rfl
      refine W.widen (k := 4 + 2 * (i + 1)) (n := 59 + 31 * (i + 1)) (by omega) (by omega) ?_
      exact ih (i + 1) _ _ _ ls _ _ (by omega) (pP_f hi hf) hl hP hD hS kk
  have hl := lv_sub (l' := [(0, .ref h0), (1, .int x1), (2, .int (nI 0))]) hl [1, 2, 0] rfl
  refine lp 16 0 (fun _ => none) (fun _ => 0) (fun _ => 0) ls _ _ rfl (fun j hj => absurd hj (Nat.not_lt_zero _)) hl (show va_P D cls ([(h0, .inr (4, [.ref q14, .ref q7, .int 0])), (q7, .inl (cA 4, 16, .inr (.inr (.inr (.inr (fun _ => none)))))), (q14, .inr (5, gf0 x1 q1 q2)), (q1, .inl (cA 2, 16, .inr (.inl z64))), (q2, .inl (cA 1, 16, .inl z32))] ++ pP (fun t q => .inr (6, tr0 (nI t) x1 q)) (.inl (cA 0, 16, .inl z32)) (fun _ => 0) (fun _ => 0) 0) H from hP) (show va_D A ([(h0, .inr (4, [.ref q14, .ref q7, .int 0])), (q7, .inl (cA 4, 16, .inr (.inr (.inr (.inr (fun _ => none)))))), (q14, .inr (5, gf0 x1 q1 q2)), (q1, .inl (cA 2, 16, .inr (.inl z64))), (q2, .inl (cA 1, 16, .inl z32))] ++ pP (fun t q => .inr (6, tr0 (nI t) x1 q)) (.inl (cA 0, 16, .inl z32)) (fun _ => 0) (fun _ => 0) 0) from hD) hS (fun f r d ls H locs hf hP hD hS => ?_)
  exact W.vret hx hb hr (fun t ht hW => ⟨⟨_, rfl, ⟨q7, q14, q1, q2, f, r, d, hf, rfl⟩, by rw [ht]; exact hP, hD⟩, hS.F ht⟩) hS.2.2 d_GR_init_54
theorem hd_CF_init : y_CF_init.cls ≠ "java/lang/invoke/MethodHandle" ∧ y_CF_init.cls ≠ "java/lang/invoke/VarHandle" ∧ (parseMethodDescriptor y_CF_init.desc).map (fun d => d.parameters.length) = some 0 := by decide +kernel
theorem ki_CF {R : Room} {s : State} {args : Array Value} {c0 : Cond} {own : String} {index : Nat} (hts : ∀ w ∈ c0 :: gw, w.before args s = true) {host : String} (hl : va_Nw (.methodLinkNest own index y_CF_init host) s) (hR : 1 + 1 ≤ R.frames ∧ 8 + (1 + 11) + 12 ≤ R.locals) : va_CN R s args own index y_CF_init host b_CF_init 1 none w_CF_init ({ frames := 1, cells := 0, slots := 0, locals := 12 } : Room) 0 0 0 ∧ y_CF_init.name = "<init>" ∧ (Cond.instanceMethod y_CF_init).before args s = true := ⟨va_cnB 0 hts (gw_in tw_195) rfl rfl rfl hl (hts _ (List.mem_cons_of_mem _ tw_8)) hd_CF_init hR, rfl, hts _ (List.mem_cons_of_mem _ tw_194)⟩
set_option maxHeartbeats 4000000 in
set_option maxRecDepth 100000 in
theorem c_CT_init (l : Launch) {D : va_G} {cA : Nat → ClassId} (h0 sz : Nat) (x1 : Int32) : Met l y_CT_init w_CT_init ({ frames := 2, cells := 40, slots := 587, locals := 33 } : Room) (va_Pc [.ref h0, .int x1] (cS D (xt cA) xMN sz h0 (.inr (1, [.null, .null, .null, .null])))) (va_Qv (fun w1 => ∃ (q5 q18 q26 q35 : Nat) (f : Nat → Option Nat) (r d : Nat → Nat), (∀ j, j < 16 → f j = some (r j)) ∧ w1 = ([(h0, .inr (1, [.ref q5, .ref q18, .ref q26, .ref q35])), (q5, .inr (2, [.int 0, .int 0, .int 0])), (q18, .inl (cA 5, 16, .inr (.inr (.inr (.inr f))))), (q26, .inl (cA 0, 4, .inl z32))] ++ mArr q35 4 16 (cA 0) (cA 3)) ++ pP (fun _ q => .inr (3, cr0 x1 q)) (.inl (cA 0, 16, .inl z32)) r d 16) (cEn D (va_A [(h0, .inr (1, [.null, .null, .null, .null]))] sz)) (va_A [(h0, .inr (1, [.null, .null, .null, .null]))] sz)) 40 587 (va_A [(h0, .inr (1, [.null, .null, .null, .null]))] sz) := by
  refine Met.ofW (cc := b_CT_init) (maxL := 3) (ret := none) (by decide) rfl ?_
  intro p e s m args below meth c s₁ B hml hv
  obtain ⟨rfl, hsz, hP, hK, hD0, hN, hO⟩ := hv
  have hx := B.exec
  have hb := B.bytes
  have hr := B.returns
  have hts := atoms_spec (ws := w_CT_init) B.pre
  have hg : ∀ w ∈ gw, w.before ([.ref h0, .int x1] : List Value).toArray s = true := fun w hw => hts w (List.mem_cons_of_mem _ hw)
  have hown : s.vm.findClass "FarLink$Craft" = some m.cls := findClass_of_methodNamed B.named
  have hlocks := B.notSynchronized
  have hin : meth.name = "<init>" := (name_of_methodNamed B.named B.method).1
  subst hsz
  have hD := hD0.self (sz := s.heap.size)
  generalize hAe : va_A [(h0, .inr (1, [.null, .null, .null, .null]))] s.heap.size = A at hD ⊢
  have hA : ∀ q : Nat, s.heap.size ≤ q → A q := fun q h => by rw [← hAe]; exact Or.inr h
  have hS : va_S A s.heap s.heap [] := va_S.rf
  have hl := lv_entry ([.ref h0, .int x1]) (n := 3) (Nat.le_of_ble_eq_true rfl)
  rw [lg_entry_eq]
  generalize (lg_sl ([.ref h0, .int x1]) ++ List.replicate (3 - (lg_sl ([.ref h0, .int x1])).length) Slot.unset).toArray = ls at hl ⊢
  have hl : lv_has ls 3 [(0, .ref h0), (1, .int x1)] := hl
  refine lv_aload_n hx hb d_CT_init_0 rfl (lv_at hl 0 rfl) ?_
  refine W.objInit hx hb hown (hg _ tw_190) (hg _ tw_21) (hg _ tw_22) rfl (by rw [hml]; exact hl.1) rfl d_CT_init_1 (Nat.le_of_ble_eq_true rfl) (Nat.le_of_ble_eq_true rfl) ?_
  refine W.eq (g2 := F0 m 4 ls []) rfl ?_
  refine lv_aload_n hx hb d_CT_init_4 rfl (lv_at hl 0 rfl) ?_
  refine va_new (ci := 2) (fs := [.int 0, .int 0, .int 0]) (C := "FarLink$CraftFrames") (T := F_CF) (N := 3) hx hb hg in_CF t_CF t_CF_ok hown (hg _ tw_191) (hg _ tw_192) (hg _ tw_8) hK hP hD hS hA rfl (by decide) (Nat.le_of_ble_eq_true rfl) (Nat.le_of_ble_eq_true rfl) d_CT_init_5 (fun q5 H hP hD hS => ?_)
  refine lv_dup hx hb d_CT_init_8 rfl ?_
  refine kq_init (w := [(h0, .inr (1, [.null, .null, .null, .null]))]) (va_runIN (As := []) (rest := [.ref q5, .ref h0]) ⟨hx, hb, hml, hown, hts⟩ (c_CF_init l q5 H.size) (ki_CF hts (hN.m 0 rfl) ⟨Nat.le_of_ble_eq_true rfl, Nat.le_of_ble_eq_true rfl⟩) (cS.pre (w := [(h0, .inr (1, [.null, .null, .null, .null]))]) hK hN hO hP) rfl rfl hl.1 rfl (lv_room (Nat.le_of_ble_eq_true rfl)) d_CT_init_9 ⟨Nat.le_of_ble_eq_true rfl, Nat.le_of_ble_eq_true rfl⟩) hP hD hS hA (fun w1 H locs hw hP hD hS => ?_)
  subst hw
  have hP : va_P D cls [(h0, .inr (1, [.null, .null, .null, .null])), (q5, .inr (2, [.int 0, .int 0, .int 0]))] H := hP
  have hD : va_D A [(h0, .inr (1, [.null, .null, .null, .null])), (q5, .inr (2, [.int 0, .int 0, .int 0]))] := hD
  refine va_putF (D := D) (ci := 1) (v := .ref q5) (ty := .object "FarLink$CraftFrames") (C := "FarLink$Craft") (T := F_CT) (N := 4) hx hb hg in_CT t_CT t_CT_ok n_CT hown hK hP hD hS 0 rfl rfl 0 (by decide) (hg _ tw_267) (fun _ h9 => h9) rfl hin rfl (by decide +kernel) rfl rfl (Nat.le_of_ble_eq_true rfl) d_CT_init_12 (fun H locs hP hD hS => ?_)
  have hP : va_P D cls [(h0, .inr (1, [.ref q5, .null, .null, .null])), (q5, .inr (2, [.int 0, .int 0, .int 0]))] H := hP
  have hD : va_D A [(h0, .inr (1, [.ref q5, .null, .null, .null])), (q5, .inr (2, [.int 0, .int 0, .int 0]))] := hD
  refine lv_aload_n hx hb d_CT_init_15 rfl (lv_at hl 0 rfl) ?_
  refine lv_bipush (v := 16) hx hb d_CT_init_16 (by decide) ?_
  refine kq_newq (C := "FarLink$CraftRecord") (t0 := 5) (cA := cA 5) (N' := 16) hx hb hown (hg _ tw_207) hO.2.1 hK rfl hP hD hS hA (by decide) (by decide) (by decide) (Nat.le_of_ble_eq_true rfl) (Nat.le_of_ble_eq_true rfl) d_CT_init_18 (fun q18 H hP hD hS => ?_)
  have hP : va_P D cls [(h0, .inr (1, [.ref q5, .null, .null, .null])), (q5, .inr (2, [.int 0, .int 0, .int 0])), (q18, .inl (cA 5, 16, .inr (.inr (.inr (.inr (fun _ => none))))))] H := hP
  have hD : va_D A [(h0, .inr (1, [.ref q5, .null, .null, .null])), (q5, .inr (2, [.int 0, .int 0, .int 0])), (q18, .inl (cA 5, 16, .inr (.inr (.inr (.inr (fun _ => none))))))] := hD
  refine va_putF (D := D) (ci := 1) (v := .ref q18) (ty := .array (.object "FarLink$CraftRecord")) (C := "FarLink$Craft") (T := F_CT) (N := 4) hx hb hg in_CT t_CT t_CT_ok n_CT hown hK hP hD hS 0 rfl rfl 1 (by decide) (hg _ tw_269) (fun _ h9 => h9) rfl hin rfl (by decide +kernel) rfl rfl (Nat.le_of_ble_eq_true rfl) d_CT_init_21 (fun H locs hP hD hS => ?_)
  have hP : va_P D cls [(h0, .inr (1, [.ref q5, .ref q18, .null, .null])), (q5, .inr (2, [.int 0, .int 0, .int 0])), (q18, .inl (cA 5, 16, .inr (.inr (.inr (.inr (fun _ => none))))))] H := hP
  have hD : va_D A [(h0, .inr (1, [.ref q5, .ref q18, .null, .null])), (q5, .inr (2, [.int 0, .int 0, .int 0])), (q18, .inl (cA 5, 16, .inr (.inr (.inr (.inr (fun _ => none))))))] := hD
  refine lv_aload_n hx hb d_CT_init_24 rfl (lv_at hl 0 rfl) ?_
  refine lv_iconst (v := 4) hx hb d_CT_init_25 (by decide) ?_
  refine kq_newa (atype := .int) (t0 := 0) (cA := cA 0) (ty := .int) (N' := 4) (a0 := (4, .inl z32)) hx hb (hg _ tw_67) rfl hK rfl hP hD hS hA (fun _ => rfl) (by decide) (by decide) (by decide) (Nat.le_of_ble_eq_true rfl) (Nat.le_of_ble_eq_true rfl) d_CT_init_26 (fun q26 H hP hD hS => ?_)
  have hP : va_P D cls [(h0, .inr (1, [.ref q5, .ref q18, .null, .null])), (q5, .inr (2, [.int 0, .int 0, .int 0])), (q18, .inl (cA 5, 16, .inr (.inr (.inr (.inr (fun _ => none)))))), (q26, .inl (cA 0, 4, .inl z32))] H := hP
  have hD : va_D A [(h0, .inr (1, [.ref q5, .ref q18, .null, .null])), (q5, .inr (2, [.int 0, .int 0, .int 0])), (q18, .inl (cA 5, 16, .inr (.inr (.inr (.inr (fun _ => none)))))), (q26, .inl (cA 0, 4, .inl z32))] := hD
  refine va_putF (D := D) (ci := 1) (v := .ref q26) (ty := .array .int) (C := "FarLink$Craft") (T := F_CT) (N := 4) hx hb hg in_CT t_CT t_CT_ok n_CT hown hK hP hD hS 0 rfl rfl 2 (by decide) (hg _ tw_271) (fun _ h9 => h9) rfl hin rfl (by decide +kernel) rfl rfl (Nat.le_of_ble_eq_true rfl) d_CT_init_28 (fun H locs hP hD hS => ?_)
  have hP : va_P D cls [(h0, .inr (1, [.ref q5, .ref q18, .ref q26, .null])), (q5, .inr (2, [.int 0, .int 0, .int 0])), (q18, .inl (cA 5, 16, .inr (.inr (.inr (.inr (fun _ => none)))))), (q26, .inl (cA 0, 4, .inl z32))] H := hP
  have hD : va_D A [(h0, .inr (1, [.ref q5, .ref q18, .ref q26, .null])), (q5, .inr (2, [.int 0, .int 0, .int 0])), (q18, .inl (cA 5, 16, .inr (.inr (.inr (.inr (fun _ => none)))))), (q26, .inl (cA 0, 4, .inl z32))] := hD
  refine lv_aload_n hx hb d_CT_init_31 rfl (lv_at hl 0 rfl) ?_
  refine lv_iconst (v := 4) hx hb d_CT_init_32 (by decide) ?_
  refine lv_bipush (v := 16) hx hb d_CT_init_33 (by decide) ?_
  refine kq_mna (t0 := 0) (t1 := 3) (cI := cA 0) (cII := cA 3) (N := 4) (K := 16) hx hb hown (hg _ tw_209) hO.2.2 (hg _ tw_67) hK rfl rfl hP hD hS hA (by decide) (by decide) (by decide) (by decide) (by decide) (by decide) (Nat.le_of_ble_eq_true rfl) (Nat.le_of_ble_eq_true rfl) d_CT_init_35 (fun q35 H hP hD hS => ?_)
  refine va_putF (D := D) (ci := 1) (v := .ref q35) (ty := .array (.array .int)) (C := "FarLink$Craft") (T := F_CT) (N := 4) hx hb hg in_CT t_CT t_CT_ok n_CT hown hK hP hD hS 0 rfl rfl 3 (by decide) (hg _ tw_272) (fun _ h9 => h9) rfl hin rfl (by decide +kernel) rfl rfl (Nat.le_of_ble_eq_true rfl) d_CT_init_39 (fun H locs hP hD hS => ?_)
  have hP : va_P D cls ([(h0, .inr (1, [.ref q5, .ref q18, .ref q26, .ref q35])), (q5, .inr (2, [.int 0, .int 0, .int 0])), (q18, .inl (cA 5, 16, .inr (.inr (.inr (.inr (fun _ => none)))))), (q26, .inl (cA 0, 4, .inl z32))] ++ mArr q35 4 16 (cA 0) (cA 3)) H := hP
  have hD : va_D A ([(h0, .inr (1, [.ref q5, .ref q18, .ref q26, .ref q35])), (q5, .inr (2, [.int 0, .int 0, .int 0])), (q18, .inl (cA 5, 16, .inr (.inr (.inr (.inr (fun _ => none)))))), (q26, .inl (cA 0, 4, .inl z32))] ++ mArr q35 4 16 (cA 0) (cA 3)) := hD
  refine lv_iconst (v := 0) hx hb d_CT_init_42 (by decide) ?_
  refine lv_istore_n (lv' := [(2, .int 0), (0, .ref h0), (1, .int x1)]) hx hb d_CT_init_43 rfl hl (by decide) rfl (fun ls hl => ?_)
  have lp : ∀ (k i : Nat) (f : Nat → Option Nat) (r d : Nat → Nat) (ls : Array Slot) (H : Heap) (locs : List Loc), i + k = 16 → (∀ j, j < i → f j = some (r j)) → lv_has ls 3 [(0, .ref h0), (1, .int x1), (2, .int (nI i))] → va_P D cls (([(h0, .inr (1, [.ref q5, .ref q18, .ref q26, .ref q35])), (q5, .inr (2, [.int 0, .int 0, .int 0])), (q18, .inl (cA 5, 16, .inr (.inr (.inr (.inr f))))), (q26, .inl (cA 0, 4, .inl z32))] ++ mArr q35 4 16 (cA 0) (cA 3)) ++ pP (fun _ q => .inr (3, cr0 x1 q)) (.inl (cA 0, 16, .inl z32)) r d i) H → va_D A (([(h0, .inr (1, [.ref q5, .ref q18, .ref q26, .ref q35])), (q5, .inr (2, [.int 0, .int 0, .int 0])), (q18, .inl (cA 5, 16, .inr (.inr (.inr (.inr f))))), (q26, .inl (cA 0, 4, .inl z32))] ++ mArr q35 4 16 (cA 0) (cA 3)) ++ pP (fun _ q => .inr (3, cr0 x1 q)) (.inl (cA 0, 16, .inl z32)) r d i) → va_S A s.heap H locs → (∀ (f : Nat → Option Nat) (r d : Nat → Nat) (ls : Array Slot) (H : Heap) (locs : List Loc), (∀ j, j < 16 → f j = some (r j)) → va_P D cls (([(h0, .inr (1, [.ref q5, .ref q18, .ref q26, .ref q35])), (q5, .inr (2, [.int 0, .int 0, .int 0])), (q18, .inl (cA 5, 16, .inr (.inr (.inr (.inr f))))), (q26, .inl (cA 0, 4, .inl z32))] ++ mArr q35 4 16 (cA 0) (cA 3)) ++ pP (fun _ q => .inr (3, cr0 x1 q)) (.inl (cA 0, 16, .inl z32)) r d 16) H → va_D A (([(h0, .inr (1, [.ref q5, .ref q18, .ref q26, .ref q35])), (q5, .inr (2, [.int 0, .int 0, .int 0])), (q18, .inl (cA 5, 16, .inr (.inr (.inr (.inr f))))), (q26, .inl (cA 0, 4, .inl z32))] ++ mArr q35 4 16 (cA 0) (cA 3)) ++ pP (fun _ q => .inr (3, cr0 x1 q)) (.inl (cA 0, 16, .inl z32)) r d 16) → va_S A s.heap H locs → W p l e (headSpec w_CT_init ({ frames := 2, cells := 40, slots := 587, locals := 33 } : Room)).room s m ([.ref h0, .int x1] : List Value).toArray below meth c H locs (8 + 2 * 16) (91 + 31 * 16) (MQ below (va_Qv (fun w1 => ∃ (q5 q18 q26 q35 : Nat) (f : Nat → Option Nat) (r d : Nat → Nat), (∀ j, j < 16 → f j = some (r j)) ∧ w1 = ([(h0, .inr (1, [.ref q5, .ref q18, .ref q26, .ref q35])), (q5, .inr (2, [.int 0, .int 0, .int 0])), (q18, .inl (cA 5, 16, .inr (.inr (.inr (.inr f))))), (q26, .inl (cA 0, 4, .inl z32))] ++ mArr q35 4 16 (cA 0) (cA 3)) ++ pP (fun _ q => .inr (3, cr0 x1 q)) (.inl (cA 0, 16, .inl z32)) r d 16) (cEn D A) A) ([.ref h0, .int x1] : List Value).toArray s 40 587 A) (F0 m 70 ls [])) → W p l e (headSpec w_CT_init ({ frames := 2, cells := 40, slots := 587, locals := 33 } : Room)).room s m ([.ref h0, .int x1] : List Value).toArray below meth c H locs (8 + 2 * i) (91 + 31 * i) (MQ below (va_Qv (fun w1 => ∃ (q5 q18 q26 q35 : Nat) (f : Nat → Option Nat) (r d : Nat → Nat), (∀ j, j < 16 → f j = some (r j)) ∧ w1 = ([(h0, .inr (1, [.ref q5, .ref q18, .ref q26, .ref q35])), (q5, .inr (2, [.int 0, .int 0, .int 0])), (q18, .inl (cA 5, 16, .inr (.inr (.inr (.inr f))))), (q26, .inl (cA 0, 4, .inl z32))] ++ mArr q35 4 16 (cA 0) (cA 3)) ++ pP (fun _ q => .inr (3, cr0 x1 q)) (.inl (cA 0, 16, .inl z32)) r d 16) (cEn D A) A) ([.ref h0, .int x1] : List Value).toArray s 40 587 A) (F0 m 44 ls []) := by
    intro k
    induction k with
    | zero =>
      intro i f r d ls H locs hik hf hl hP hD hS kk
      have hi : i = 16 := by omega
      subst hi
      refine lv_iload_n hx hb d_CT_init_44 rfl (lv_at hl 2 rfl) ?_
      refine lv_bipush (v := 16) hx hb d_CT_init_45 (by decide) ?_
      refine lv_icmp_ge (tgt := 70) hx hb d_CT_init_47 (by decide) (fun _ => ?_) (fun h => absurd (fl_le (b := 16) rfl (by omega) (by omega)) h)
      exact kk f r d ls _ _ hf hP hD hS
    | succ k ih =>
      intro i f r d ls H locs hik hf hl hP hD hS kk
      have hi : i < 16 := by omega
      refine lv_iload_n hx hb d_CT_init_44 rfl (lv_at hl 2 rfl) ?_
      refine lv_bipush (v := 16) hx hb d_CT_init_45 (by decide) ?_
      refine lv_icmp_ge (tgt := 70) hx hb d_CT_init_47 (by decide) (fun h => absurd h (fl_nle (b := 16) rfl (by omega) (by decide))) (fun _ => ?_)
      refine lv_aload_n hx hb d_CT_init_50 rfl (lv_at hl 0 rfl) ?_
      refine va_get (D := D) (ci := 1) (v := .ref q18) (C := "FarLink$Craft") (T := F_CT) (N := 4) hx hb hg in_CT hown hK hP 0 rfl rfl 1 (by decide) (hg _ tw_269) (fun _ h9 => h9) rfl d_CT_init_51 ?_
      refine lv_iload_n hx hb d_CT_init_54 rfl (lv_at hl 2 rfl) ?_
      refine va_new (ci := 3) (fs := [.int 0, .null, .int 0, .int 0, .int 0, .int 0, .int 0, .int 0, .int 0, .int 0, .int 0, .int 0, .int 0, .int 0, .int 0]) (C := "FarLink$CraftRecord") (T := F_CR) (N := 15) hx hb hg in_CR t_CR t_CR_ok hown (hg _ tw_207) (hg _ tw_210) (hg _ tw_9) hK hP hD hS hA rfl (by decide) (show 8 + 2 * i + 1 ≤ 40 by omega) (show 91 + 31 * i + 15 ≤ 587 by omega) d_CT_init_55 (fun qn H hP hD hS => ?_)
      refine lv_dup hx hb d_CT_init_58 rfl ?_
      refine lv_iload_n hx hb d_CT_init_59 rfl (lv_at hl 1 rfl) ?_
      refine kq_init (va_runI (As := [.int x1]) (rest := [.ref qn, .int (nI i), .ref q18]) ⟨hx, hb, hml, hown, hts⟩ (c_CR_init l qn H.size x1) (ki_CR hts (hg _ tw_211) ⟨Nat.le_of_ble_eq_true rfl, Nat.le_of_ble_eq_true rfl⟩) (cS.pre hK hN hO hP) rfl rfl hl.1 rfl (lv_room (Nat.le_of_ble_eq_true rfl)) d_CT_init_60 ⟨(show 8 + 2 * i + 1 + 1 ≤ 40 by omega), (show 91 + 31 * i + 15 + 16 ≤ 587 by omega)⟩) hP hD hS hA (fun w1 H locs hw hP hD hS => ?_)
      obtain ⟨qw, rfl⟩ := hw
      refine va_astq hx hb hK hP hD hS 2 5 (([(h0, .inr (1, [.ref q5, .ref q18, .ref q26, .ref q35])), (q5, .inr (2, [.int 0, .int 0, .int 0])), (q18, .inl (cA 5, 16, .inr (.inr (.inr (.inr f))))), (q26, .inl (cA 0, 4, .inl z32))] ++ mArr q35 4 16 (cA 0) (cA 3)) ++ pP (fun _ q => .inr (3, cr0 x1 q)) (.inl (cA 0, 16, .inl z32)) r d i : va_W).length 3 (r := ("FarLink$CraftRecord", F_CR, 15)) rfl rfl kq_end rfl (vp_in_nI hi (by decide)) d_CT_init_63 (fun H locs hP hD hS => ?_)
      have hP : va_P D cls ((([(h0, .inr (1, [.ref q5, .ref q18, .ref q26, .ref q35])), (q5, .inr (2, [.int 0, .int 0, .int 0])), (q18, .inl (cA 5, 16, .inr (.inr (.inr (.inr (va_up f (nI i).toNatClampNeg (some qn))))))), (q26, .inl (cA 0, 4, .inl z32))] ++ mArr q35 4 16 (cA 0) (cA 3)) ++ pP (fun _ q => .inr (3, cr0 x1 q)) (.inl (cA 0, 16, .inl z32)) r d i) ++ [(qn, .inr (3, cr0 x1 qw)), (qw, .inl (cA 0, 16, .inl z32))]) H := hP
      have hD : va_D A ((([(h0, .inr (1, [.ref q5, .ref q18, .ref q26, .ref q35])), (q5, .inr (2, [.int 0, .int 0, .int 0])), (q18, .inl (cA 5, 16, .inr (.inr (.inr (.inr (va_up f (nI i).toNatClampNeg (some qn))))))), (q26, .inl (cA 0, 4, .inl z32))] ++ mArr q35 4 16 (cA 0) (cA 3)) ++ pP (fun _ q => .inr (3, cr0 x1 q)) (.inl (cA 0, 16, .inl z32)) r d i) ++ [(qn, .inr (3, cr0 x1 qw)), (qw, .inl (cA 0, 16, .inl z32))]) := hD
      rw [pP_step (E := fun _ q => .inr (3, cr0 x1 q)) (a := qn) (b := qw)] at hP hD
      refine lv_iinc (k := 2) (v := nI (i + 1)) (lv' := [(2, .int (nI (i + 1))), (0, .ref h0), (1, .int x1)]) hx hb d_CT_init_64 hl rfl (fl_inc _) (by decide) rfl (fun ls hl => ?_)
      refine lv_goto (tgt := 44) hx hb d_CT_init_67 (by decide) ?_
      have hl := lv_sub (l' := [(0, .ref h0), (1, .int x1), (2, .int (nI (i + 1)))]) hl [1, 2, 0] rfl
      refine W.widen (k := 8 + 2 * (i + 1)) (n := 91 + 31 * (i + 1)) (by omega) (by omega) ?_
      exact ih (i + 1) _ _ _ ls _ _ (by omega) (pP_f hi hf) hl hP hD hS kk
  have hl := lv_sub (l' := [(0, .ref h0), (1, .int x1), (2, .int (nI 0))]) hl [1, 2, 0] rfl
  refine lp 16 0 (fun _ => none) (fun _ => 0) (fun _ => 0) ls _ _ rfl (fun j hj => absurd hj (Nat.not_lt_zero _)) hl (by show va_P D cls (([(h0, .inr (1, [.ref q5, .ref q18, .ref q26, .ref q35])), (q5, .inr (2, [.int 0, .int 0, .int 0])), (q18, .inl (cA 5, 16, .inr (.inr (.inr (.inr (fun _ => none)))))), (q26, .inl (cA 0, 4, .inl z32))] ++ mArr q35 4 16 (cA 0) (cA 3)) ++ []) H; rw [List.append_nil]; exact hP) (by show va_D A (([(h0, .inr (1, [.ref q5, .ref q18, .ref q26, .ref q35])), (q5, .inr (2, [.int 0, .int 0, .int 0])), (q18, .inl (cA 5, 16, .inr (.inr (.inr (.inr (fun _ => none)))))), (q26, .inl (cA 0, 4, .inl z32))] ++ mArr q35 4 16 (cA 0) (cA 3)) ++ []); rw [List.append_nil]; exact hD) hS (fun f r d ls H locs hf hP hD hS => ?_)
  exact W.vret hx hb hr (fun t ht hW => ⟨⟨_, rfl, ⟨q5, q18, q26, q35, f, r, d, hf, rfl⟩, by rw [ht]; exact hP, hD⟩, hS.F ht⟩) hS.2.2 d_CT_init_70
