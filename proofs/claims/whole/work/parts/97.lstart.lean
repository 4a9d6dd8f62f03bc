/-! the law: cell, and the start -/
theorem hd_FL_init : y_FL_init.cls ≠ "java/lang/invoke/MethodHandle" ∧ y_FL_init.cls ≠ "java/lang/invoke/VarHandle" ∧ (parseMethodDescriptor y_FL_init.desc).map (fun d => d.parameters.length) = some 1 := by decide +kernel
theorem ki_FL {R : Room} {s : State} {args : Array Value} {c0 : Cond} {own : String} {index : Nat} (hts : ∀ w ∈ c0 :: gw, w.before args s = true) (hl : (Cond.methodLink own index y_FL_init).before args s = true) (hR : 3 + 1 ≤ R.frames ∧ 8 + (4 + 11) + 56 ≤ R.locals) : CallB R s args own index y_FL_init b_FL_init 4 none w_FL_init ({ frames := 3, cells := 87, slots := 1249, locals := 56 } : Room) 87 1249 1 ∧ y_FL_init.name = "<init>" ∧ (Cond.instanceMethod y_FL_init).before args s = true := ⟨callB_of 1 hts (gw_in tw_19) rfl rfl rfl (hts _ (List.mem_cons_of_mem _ tw_1)) hl hd_FL_init hR, rfl, hts _ (List.mem_cons_of_mem _ tw_18)⟩
theorem hd_MD_init : y_MD_init.cls ≠ "java/lang/invoke/MethodHandle" ∧ y_MD_init.cls ≠ "java/lang/invoke/VarHandle" ∧ (parseMethodDescriptor y_MD_init.desc).map (fun d => d.parameters.length) = some 1 := by decide +kernel
theorem ki_MD {R : Room} {s : State} {args : Array Value} {c0 : Cond} {own : String} {index : Nat} (hts : ∀ w ∈ c0 :: gw, w.before args s = true) (hl : (Cond.methodLink own index y_MD_init).before args s = true) (hR : 3 + 1 ≤ R.frames ∧ 8 + (2 + 11) + 75 ≤ R.locals) : CallB R s args own index y_MD_init b_MD_init 2 none w_MD_init ({ frames := 3, cells := 40, slots := 1134, locals := 75 } : Room) 40 1134 1 ∧ y_MD_init.name = "<init>" ∧ (Cond.instanceMethod y_MD_init).before args s = true := ⟨callB_of 1 hts (gw_in tw_769) rfl rfl rfl (hts _ (List.mem_cons_of_mem _ tw_10)) hl hd_MD_init hR, rfl, hts _ (List.mem_cons_of_mem _ tw_768)⟩

def cellOf (L : Nat) (xs : Nat → Int32) : Int32 := if nI L ≤ 0 then 0 else xs 0
def cX (b L : Nat) (xs : Nat → Int32) (U : State) : Prop := va_X b L xs U U.heap ∧ b < U.heap.size
theorem cX.blind {b L : Nat} {xs : Nat → Int32} {av : List Value} : FrameBlind (va_Pc av (cX b L xs)) := fun a U g mk q => ⟨q.1, va_X.moved (u := U) (U := U.calling g mk a) (Vm.Alike.refl U.vm) q.2.1, q.2.2⟩
set_option maxHeartbeats 4000000 in
set_option maxRecDepth 100000 in
theorem c_LW_cell (l : Launch) {b L : Nat} {xs : Nat → Int32} (hL : L ≤ 2561) : Met l y_LW_cell w_LW_cell ({ frames := 0, cells := 0, slots := 0, locals := 0 } : Room) (va_Pc [.ref b, .int 0] (cX b L xs)) (va_Qi (fun r (_ : Unit) => r = cellOf L xs) (fun _ _ => True) (fun _ => False)) 0 0 (fun _ => False) := by
  refine Met.ofW (cc := b_LW_cell) (maxL := 2) (ret := (some .int)) (by decide) rfl ?_
  intro p e s m args below meth c s₁ B hml hv
  obtain ⟨rfl, hX, hbl⟩ := hv
  have hx := B.exec
  have hb := B.bytes
  have hr := B.returns
  have hlocks := B.notSynchronized
  have hS : va_S (fun _ => False) s.heap s.heap [] := va_S.rf
  have hl := lv_entry ([.ref b, .int 0]) (n := 2) (Nat.le_of_ble_eq_true rfl)
  rw [lg_entry_eq]
  generalize (lg_sl ([.ref b, .int 0]) ++ List.replicate (2 - (lg_sl ([.ref b, .int 0])).length) Slot.unset).toArray = ls at hl ⊢
  have hl : lv_has ls 2 [(0, .ref b), (1, .int 0)] := hl
  refine lv_iload_n hx hb d_LW_cell_0 rfl (lv_at hl 1 rfl) ?_
  refine lv_aload_n hx hb d_LW_cell_1 rfl (lv_at hl 0 rfl) ?_
  refine va_slen hx hb hX hbl (fun h => h) hS d_LW_cell_2 ?_
  refine lv_icmp_ge (tgt := 12) hx hb d_LW_cell_3 (by decide) (fun h1 => ?_) (fun h1 => ?_)
  · refine lv_iconst (v := 0) hx hb d_LW_cell_12 (by decide) ?_
    exact W.iret (v := 0) hx hb hr (fun t ht hW => ⟨⟨0, (), rfl, (if_pos h1).symm, trivial⟩, hS.F ht⟩) hS.2.2 d_LW_cell_13
  · have h0 : 0 < L := by
      rcases Nat.eq_zero_or_pos L with e | e
      · rw [e] at h1
        exact absurd (by decide) h1
      · exact e
    refine lv_aload_n hx hb d_LW_cell_6 rfl (lv_at hl 0 rfl) ?_
    refine lv_iload_n hx hb d_LW_cell_7 rfl (lv_at hl 1 rfl) ?_
    refine va_sld hx hb hX hbl (fun h => h) hS (vp_in_nI (n := 0) h0 (by omega)) d_LW_cell_8 ?_
    refine lv_goto (tgt := 13) hx hb d_LW_cell_9 (by decide) ?_
    exact W.iret (v := xs 0) hx hb hr (fun t ht hW => ⟨⟨xs 0, (), rfl, (if_neg h1).symm, trivial⟩, hS.F ht⟩) hS.2.2 d_LW_cell_13
theorem hd_LW_cell : y_LW_cell.cls ≠ "java/lang/invoke/MethodHandle" ∧ y_LW_cell.cls ≠ "java/lang/invoke/VarHandle" ∧ (parseMethodDescriptor y_LW_cell.desc).map (fun d => d.parameters.length) = some 2 := by decide +kernel
theorem kv_LW_cell {R : Room} {s : State} {args : Array Value} {c0 : Cond} {own : String} {index : Nat} (hts : ∀ w ∈ c0 :: gw, w.before args s = true) (hl : (Cond.methodLink own index y_LW_cell).before args s = true) (hR : 0 + 1 ≤ R.frames ∧ 8 + (2 + 11) + 0 ≤ R.locals) : CallB R s args own index y_LW_cell b_LW_cell 2 (some .int) w_LW_cell ({ frames := 0, cells := 0, slots := 0, locals := 0 } : Room) 0 0 2 ∧ (Cond.static y_LW_cell).before args s = true := ⟨callB_of 2 hts (gw_in tw_764) rfl rfl rfl (hts _ (List.mem_cons_of_mem _ tw_0)) hl hd_LW_cell hR, hts _ (List.mem_cons_of_mem _ tw_763)⟩
section LST
variable {p : Program} {l : Launch} {e : Env} {R : Room} {s : State} {m : MethodId} {args : Array Value} {below : List Frame} {meth : Method} {c : Code} {H : Heap} {locs : List Loc} {cells slots : Nat} {Q : State → Prop}
variable {pc : Nat} {ls : Array Slot} {rest st0 : List Value} {a : Array Value} {D : va_G} {w : va_W}
theorem lw_cell {rr : Int32} (hr : va_Run p l e R s m args below meth c H locs cells slots 0 0 (F0 m pc ls st0) rest (va_Qi (fun r (_ : Unit) => r = rr) (fun _ _ => True) (fun _ => False) a) (fun _ => False)) (hP : va_P D cls w H) (hS : va_S (lA s) s.heap H locs) (kk : ∀ (H1 : Heap) (locs1 : List Loc), va_P D cls w H1 → va_S (lA s) s.heap H1 locs1 → W p l e R s m args below meth c H1 locs1 cells slots Q (F0 m (pc + 3) ls (.int rr :: rest))) : W p l e R s m args below meth c H locs cells slots Q (F0 m pc ls st0) := by
  refine va_calli hr hS (fun q _ c => c.elim) (fun q c => c.elim) (fun r u t H1 locs1 ht hvm hpost hB hz hk hS1 => ?_)
  subst hpost
  exact kk H1 locs1 (hP.kept (fun k x hx => hk x.1 ((hP k x hx).lt) (fun c => c))) hS1
theorem lw_preC {b L : Nat} {xs : Nat → Int32} {As : List Value} (hX : va_X b L xs s s.heap) (hbl : b < s.heap.size) (hS : va_S (lA s) s.heap H locs) : PreS s H (va_Pc As (cX b L xs)) As :=
  ⟨cX.blind, fun U hU hW => ⟨rfl, by rw [hU]; exact (hX.kept (hS.2.1 b hbl (fun c => absurd hbl (Nat.not_lt.mpr c)))).moved hW.alike, by rw [hU]; exact Nat.lt_of_lt_of_le hbl hS.1⟩⟩
end LST
theorem held_d (x : Int32) : ∃ d : Nat, 1 ≤ d ∧ d ≤ 5 ∧ held x = nI d := by
  have key : ∀ y : Int32, y ≤ 5 → (if 1 < y then y else 1) ≤ 5 ∧ (1 : Int32) ≤ (if 1 < y then y else 1) := by
    intro y hy
    by_cases h : 1 < y
    · rw [if_pos h]
      exact ⟨hy, Int32.le_of_lt h⟩
    · rw [if_neg h]
      decide
  have hy : (if x < 5 then x else 5) ≤ 5 := by
    by_cases h : x < 5
    · rw [if_pos h]
      exact Int32.le_of_lt h
    · rw [if_neg h]
      exact Int32.le_refl _
  have h5 : held x ≤ 5 := (key _ hy).1
  have h1 : (1 : Int32) ≤ held x := (key _ hy).2
  obtain ⟨d, hd, e⟩ := nI_of2 (x := held x) (M := 5) (n := 5) (by decide) (fun c => absurd (Int32.lt_of_lt_of_le c (Int32.le_trans (show (0 : Int32) ≤ 1 by decide) h1)) (Int32.lt_irrefl)) h5
  refine ⟨d, ?_, hd, e⟩
  rw [e] at h1
  exact (nI_leI (a := 1) (by decide) (by omega)).mp h1
theorem M0_N0 {x : Int32} {d : Nat} (h : x = nI d) : M0 x (2 * x + 6) g_MD_product = N0 d := by
  unfold M0 N0
  rw [sp_nI h, h, prod_eq]
set_option maxHeartbeats 4000000 in
set_option maxRecDepth 100000 in
theorem whole_start {p : Program} {e : Env} {s : State} {m : MethodId} {below : List Frame} {meth : Method} {c : Code} (l : Launch) {b L : Nat} {xs : Nat → Int32} (hL : L ≤ 2561) (C0 : lw_At p s m meth c b L xs) : W p l e room_1 s m #[Value.ref b] below meth c s.heap [] 0 0 (lw_Z below #[Value.ref b] s) (entryFrame m ([Value.ref b] : List Value).toArray 4) := by
  have C1 := C0
  obtain ⟨hx, hb, hr, hml, hown, hts0, hX, hbl, hlocks, hgv⟩ := C1
  have hg : ∀ w ∈ gw, w.before #[Value.ref b] s = true := fun w hw => hts0 w (List.mem_filter.mp hw).1
  have hts : ∀ w ∈ (Cond.initialized "FarLink") :: gw, w.before #[Value.ref b] s = true := List.forall_mem_cons.mpr ⟨hg _ tw_1, hg⟩
  obtain ⟨D, cA, hK⟩ := st_K hts0
  have hN := st_N hts0
  have hN0 : fl_N [] xMN s := ⟨fun w h => absurd h List.not_mem_nil, hN.2⟩
  have hO := st_O hts0
  obtain ⟨st, hSt⟩ := st_S hts0 hgv (A := lA s) (fun a h c => absurd h (Nat.not_lt.mpr c))
  have hA : ∀ q : Nat, s.heap.size ≤ q → lA s q := fun q h => h
  have hS : va_S (lA s) s.heap s.heap [] := va_S.rf
  have hP : va_P D cls [] s.heap := fun k q hq => by cases hq
  have hD : va_D (lA s) [] := ⟨fun i j p q hi => (by cases hi), fun k q hq => (by cases hq)⟩
  have hl := lv_entry ([.ref b]) (n := 4) (Nat.le_of_ble_eq_true rfl)
  rw [lg_entry_eq]
  generalize (lg_sl ([.ref b]) ++ List.replicate (4 - (lg_sl ([.ref b])).length) Slot.unset).toArray = ls at hl ⊢
  have hl : lv_has ls 4 [(0, .ref b)] := hl
  refine va_new (ci := 0) (fs := [.null, .null, .null, .null, .null, .int 0]) (C := "FarLink") (T := F_FL) (N := 6) hx hb hg in_FL t_FL t_FL_ok hown (hg _ tw_15) (hg _ tw_16) (hg _ tw_1) hK hP hD hS hA rfl (by decide) (Nat.le_of_ble_eq_true rfl) (Nat.le_of_ble_eq_true rfl) d_LW_law_0 (fun q0 H hP hD hS => ?_)
  refine lv_dup hx hb d_LW_law_3 rfl ?_
  refine lv_aload_n hx hb d_LW_law_4 rfl (lv_at hl 0 rfl) ?_
  refine lv_iconst (v := 0) hx hb d_LW_law_5 (by decide) ?_
  refine lw_cell (va_runS (As := [.ref b, .int 0]) (rest := [.ref q0, .ref q0]) ⟨hx, hb, hml, hown, hts⟩ (c_LW_cell l hL) (kv_LW_cell hts (hg _ tw_762) ⟨Nat.le_of_ble_eq_true rfl, Nat.le_of_ble_eq_true rfl⟩) (lw_preC hX hbl hS) rfl rfl hl.1 rfl (lv_room (Nat.le_of_ble_eq_true rfl)) d_LW_law_6 ⟨Nat.le_of_ble_eq_true rfl, Nat.le_of_ble_eq_true rfl⟩) hP hS (fun H locs hP hS => ?_)
  obtain ⟨x0, hx0⟩ : ∃ z, z = cellOf L xs := ⟨_, rfl⟩
  rw [← hx0]
  refine kq_init (w := []) (va_runI (As := [.int x0]) (rest := [.ref q0]) ⟨hx, hb, hml, hown, hts⟩ (c_FL_init l q0 H.size x0) (ki_FL hts (hg _ tw_17) ⟨Nat.le_of_ble_eq_true rfl, Nat.le_of_ble_eq_true rfl⟩) (cS.pre (w := []) hK hN0 hO hP) rfl rfl hl.1 rfl (lv_room (Nat.le_of_ble_eq_true rfl)) d_LW_law_9 ⟨Nat.le_of_ble_eq_true rfl, Nat.le_of_ble_eq_true rfl⟩) hP hD hS hA (fun w1 H locs hw1 hP hD hS => ?_)
  have hP : va_P D cls w1 H := hP
  have hD : va_D (lA s) w1 := hD
  refine lv_astore_n (lv' := [(1, .ref q0), (0, .ref b)]) hx hb d_LW_law_12 rfl hl (by decide) rfl (fun ls hl => ?_)
  refine va_new (ci := 8) (fs := [.int 0, .int 0, .long 0, .int 0, .int 0, .null, .null, .null, .null, .null, .null, .null, .null, .int 0, .null, .null, .null, .null, .null, .null, .null, .null, .null, .null, .null, .null, .null, .null, .int 0, .int 0, .int 0, .null, .null, .int 0, .int 0, .int 0, .int 0, .int 0, .int 0, .int 0, .int 0, .null, .null, .null, .null, .null, .null, .null, .null, .null, .null, .null, .null, .null, .null, .null, .null]) (C := "FarLinkModel") (T := F_MD) (N := 57) hx hb hg in_MD t_MD t_MD_ok hown (hg _ tw_765) (hg _ tw_766) (hg _ tw_10) hK hP hD hS hA rfl (by decide) (Nat.le_of_ble_eq_true rfl) (Nat.le_of_ble_eq_true rfl) d_LW_law_13 (fun q1 H hP hD hS => ?_)
  refine lv_dup hx hb d_LW_law_16 rfl ?_
  refine lv_aload_n hx hb d_LW_law_17 rfl (lv_at hl 1 rfl) ?_
  refine lv_iconst (v := 0) hx hb d_LW_law_18 (by decide) ?_
  refine lw_cell (rr := x0) (va_runS (As := [.ref b, .int 0]) (rest := [.ref q1, .ref q1]) ⟨hx, hb, hml, hown, hts⟩ (by rw [hx0]; exact c_LW_cell l hL) (kv_LW_cell hts (hg _ tw_762) ⟨Nat.le_of_ble_eq_true rfl, Nat.le_of_ble_eq_true rfl⟩) (lw_preC hX hbl hS) rfl rfl hl.1 rfl (lv_room (Nat.le_of_ble_eq_true rfl)) d_LW_law_19 ⟨Nat.le_of_ble_eq_true rfl, Nat.le_of_ble_eq_true rfl⟩) hP hS (fun H locs hP hS => ?_)
  refine kq_init (w := w1) (va_runI (As := [.int x0]) (rest := [.ref q1]) ⟨hx, hb, hml, hown, hts⟩ (c_MD_init l q1 H.size x0) (ki_MD hts (hg _ tw_767) ⟨Nat.le_of_ble_eq_true rfl, Nat.le_of_ble_eq_true rfl⟩) (cS.pre (w := w1) hK hN0 hO hP) rfl rfl hl.1 rfl (lv_room (Nat.le_of_ble_eq_true rfl)) d_LW_law_22 ⟨Nat.le_of_ble_eq_true rfl, Nat.le_of_ble_eq_true rfl⟩) hP hD hS hA (fun w2 H locs hw2 hP hD hS => ?_)
  refine lv_astore_n (lv' := [(2, .ref q1), (1, .ref q0), (0, .ref b)]) hx hb d_LW_law_25 rfl hl (by decide) rfl (fun ls hl => ?_)
  refine lv_iconst (v := 1) hx hb d_LW_law_26 (by decide) ?_
  refine lv_istore_n (lv' := [(3, .int 1), (2, .ref q1), (1, .ref q0), (0, .ref b)]) hx hb d_LW_law_27 rfl hl (by decide) rfl (fun ls hl => ?_)
  obtain ⟨d, hd1, hd5, hd⟩ := held_d x0
  obtain ⟨ad', ha', hw2⟩ := hw2
  rw [M0_N0 hd] at hw2
  have hP1 : va_P D cls w1 H := fun k x hx => hP k x (by rw [List.getElem?_append_left (List.getElem?_eq_some_iff.mp hx).1]; exact hx)
  have hP2 : va_P D cls w2 H := fun k x hx => hP (w1.length + k) x (by rw [List.getElem?_append_right (Nat.le_add_right _ _), Nat.add_sub_cancel_left]; exact hx)
  have hD1 : va_D (fun q => ∃ (k : Nat) (e : va_E), w1[k]? = some (q, e)) w1 := ⟨fun i j p q hi hj c => hD.1 i j p q (by rw [List.getElem?_append_left (List.getElem?_eq_some_iff.mp hi).1]; exact hi) (by rw [List.getElem?_append_left (List.getElem?_eq_some_iff.mp hj).1]; exact hj) c, fun k q hq => ⟨k, q.2, hq⟩⟩
  have hD2 : va_D (lA s) w2 := ⟨fun i j p q hi hj c => by
    have := hD.1 (w1.length + i) (w1.length + j) p q (by rw [List.getElem?_append_right (Nat.le_add_right _ _), Nat.add_sub_cancel_left]; exact hi) (by rw [List.getElem?_append_right (Nat.le_add_right _ _), Nat.add_sub_cancel_left]; exact hj) c
    omega, fun k q hq => hD.2 (w1.length + k) q (by rw [List.getElem?_append_right (Nat.le_add_right _ _), Nat.add_sub_cancel_left]; exact hq)⟩
  obtain ⟨ad, ha, hPx, hi, hin⟩ := ga_FL hd hw1 hP1 hD1
  subst hw2
  have hi2 : fl_inj ad' 41 := fl_injD hD2
  have hin1 : ∀ k, k < 88 → lA s (ad k) := fun k hk => by
    obtain ⟨i, e, h⟩ := hin k hk
    exact hD.2 i (ad k, e) (by rw [List.getElem?_append_left (List.getElem?_eq_some_iff.mp h).1]; exact h)
  have hin2 : ∀ k, k < 41 → lA s (ad' k) := fun k hk => hD2.2 k _ (fl_get hk rfl)
  have hdis : ∀ i j, i < 88 → j < 41 → ad i ≠ ad' j := fun i j hi9 hj9 c => by
    obtain ⟨k, e, h⟩ := hin i hi9
    have hk := (List.getElem?_eq_some_iff.mp h).1
    have := hD.1 k (w1.length + j) (ad i, e) _ (by rw [List.getElem?_append_left hk]; exact h) (by rw [List.getElem?_append_right (Nat.le_add_right _ _), Nat.add_sub_cancel_left]; exact fl_get hj9 rfl) c
    omega
  have hl := lv_sub (l' := [(0, .ref b), (1, .ref q0), (2, .ref q1), (3, .int 1)]) hl [3, 2, 1, 0] rfl
  rw [← ha, ← ha'] at hl
  obtain ⟨jJ, jS⟩ := j_0 d
  exact lw_loop l C0 hL ⟨hK, hSt, hN, hi, hi2, hin1, hin2, hdis⟩ (Nat.le_of_ble_eq_true rfl) (Nat.le_of_ble_eq_true rfl) 512 1 (N0 d) zW 0 0 ls H locs (by omega) (by omega) (by omega) hl ⟨hPx, hP2, hS⟩ ⟨jJ, jS, hd1, hd5, Nat.zero_le _⟩
