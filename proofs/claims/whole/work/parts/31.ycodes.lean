/-! contracts of the reference: 31.ycodes -/
def j_ishr (x y : Int32) : Int32 := x >>> (y &&& 31)
section YJ
variable {p : Program} {l : Launch} {e : Env} {R : Room} {s : State} {m : MethodId} {args : Array Value} {below : List Frame} {meth : Method} {c : Code} {H : Heap} {locs : List Loc} {cells slots : Nat} {Q : State → Prop} {cc : ByteArray} {pc : Nat} {ls : Array Slot} {rest : List Value}
theorem lj_ishr (hexec : p.tables.exec = Jvm.exec) (hb : c.code = cc) {x y : Int32} (hdg : decode cc pc = .ok (.ishr, 1)) (k : W p l e R s m args below meth c H locs cells slots Q (F0 m (pc + 1) ls (.int (j_ishr x y) :: rest))) : W p l e R s m args below meth c H locs cells slots Q (F0 m pc ls (.int y :: .int x :: rest)) := lv_ishr hexec hb hdg k
end YJ
def j_m1 (k : Nat) : Int32 := nI k - 1
theorem m1_all : ∀ k, k < 64 → j_m1 (k + 1) + Int32.ofInt (-1) = j_m1 k ∧ ¬ j_m1 (k + 1) < 0 := by decide +kernel
theorem fl_ltn {x : Int32} {b i : Nat} (hx : x = nI b) (h : b < i) (hi : i < 2 ^ 31) : x < nI i := by rw [hx]; exact nI_lt h hi
theorem fl_nltn {x : Int32} {b i : Nat} (hx : x = nI b) (h : i ≤ b) (hb : b < 2 ^ 31) : ¬ x < nI i := by rw [hx]; exact nI_nlt h hb
theorem fl_nlt {x : Int32} {b i : Nat} (hx : x = nI b) (h : b ≤ i) (hi : i < 2 ^ 31) : ¬ nI i < x := by rw [hx]; exact nI_nlt h hi
theorem fl_rem {x : Int32} {m : Nat} (hx : x = nI m) (hm : m < 2 ^ 31) : x - x / 15 * 15 = nI (m % 15) := by rw [hx]; exact pk_rem hm (d := 15) (by decide) (by decide)
def g_MD_upRest_L10  : Nat → Int64 → Int64
  | 0, r => (r)
  | k_10 + 1, r => if (lg_cmp ((j_lshr r (nI ((k_10 + 1) + 6))) &&& 1) 0) = 0 then (g_MD_upRest_L10  k_10 r) else (g_MD_upRest_L10  k_10 (r ^^^ (j_lshl 197 ((nI ((k_10 + 1) + 6)) - 7))))
def g_MD_upRest (x1 : Int64) : Int32 :=
  (g_MD_upRest_L10  56 (x1 ^^^ 127)).toInt32
set_option maxHeartbeats 400000 in
set_option maxRecDepth 100000 in
theorem c_MD_upRest (l : Launch) {D : va_G} {ad : Nat → Nat} {cA : Nat → ClassId} (hi : fl_inj ad 41) (M : fl_M) (x1 : Int64) : Met l y_MD_upRest w_MD_upRest ({ frames := 0, cells := 0, slots := 0, locals := 0 } : Room) (va_Pc [.long x1] (fl_B D cls (yt cA) ([] : fl_L) ([] : fl_FN) ([] : fl_MN) ad (yc ad cA) 41 M)) (va_Qi (fun r M' => r = (g_MD_upRest x1) ∧ M' = M) (fl_E D cls ad (yc ad cA) 41) (fl_A ad 41)) 0 0 (fl_A ad 41) := by
  refine Met.ofW (cc := b_MD_upRest) (maxL := 5) (ret := (some .int)) (by decide) rfl ?_
  intro p e s m args below meth c s₁ B hml hv
  obtain ⟨rfl, hP, hK, hSt, hN⟩ := hv
  have hx := B.exec
  have hb := B.bytes
  have hr := B.returns
  have hts := atoms_spec (ws := w_MD_upRest) B.pre
  have hown : s.vm.findClass "FarLinkModel" = some m.cls := findClass_of_methodNamed B.named
  have hlocks := B.notSynchronized
  have hS : va_S (fl_A ad 41) s.heap s.heap [] := va_S.rf
  have hl := lv_entry ([.long x1]) (n := 5) (Nat.le_of_ble_eq_true rfl)
  rw [lg_entry_eq]
  generalize (lg_sl ([.long x1]) ++ List.replicate (5 - (lg_sl ([.long x1])).length) Slot.unset).toArray = ls at hl ⊢
  have hl : lv_has ls 5 [(0, .long x1)] := hl
  have hG := g_MD_upRest.eq_1 x1
  refine lv_lload_n hx hb d_MD_upRest_0 rfl (lv_at hl 0 rfl) ?_
  refine lv_ldc2 (v := 127) hx hb hown (hts _ (List.mem_cons_of_mem _ tw_961)) d_MD_upRest_1 ?_
  refine lv_lxor hx hb d_MD_upRest_4 ?_
  refine lv_lstore_n (lv' := [(2, .long (x1 ^^^ 127)), (0, .long x1)]) hx hb d_MD_upRest_5 rfl hl (by decide) rfl (fun ls hl => ?_)
  refine lv_bipush (v := 62) hx hb d_MD_upRest_6 (by decide) ?_
  refine lv_istore (lv' := [(4, .int 62), (2, .long (x1 ^^^ 127)), (0, .long x1)]) hx hb d_MD_upRest_8 hl (by decide) rfl (fun ls hl => ?_)
  have lp_10 : ∀ (k_10 : Nat) (r : Int64) (ls : Array Slot) (H : Heap) (locs : List Loc), k_10 ≤ 56 → lv_has ls 5 [(2, .long r), (4, .int (nI (k_10 + 6)))] → va_P D cls (fl_w ad (yc ad cA) 41 M) H → va_S (fl_A ad 41) s.heap H locs → (∀ (v : Int64) (ls : Array Slot) (H : Heap) (locs : List Loc), v = g_MD_upRest_L10  k_10 r → lv_has ls 5 [(2, .long v)] → va_P D cls (fl_w ad (yc ad cA) 41 M) H → va_S (fl_A ad 41) s.heap H locs → W p l e (headSpec w_MD_upRest ({ frames := 0, cells := 0, slots := 0, locals := 0 } : Room)).room s m ([.long x1] : List Value).toArray below meth c H locs 0 0 (MQ below (va_Qi (fun r M' => r = (g_MD_upRest x1) ∧ M' = M) (fl_E D cls ad (yc ad cA) 41) (fl_A ad 41)) ([.long x1] : List Value).toArray s 0 0 (fl_A ad 41)) (F0 m 50 ls [])) → W p l e (headSpec w_MD_upRest ({ frames := 0, cells := 0, slots := 0, locals := 0 } : Room)).room s m ([.long x1] : List Value).toArray below meth c H locs 0 0 (MQ below (va_Qi (fun r M' => r = (g_MD_upRest x1) ∧ M' = M) (fl_E D cls ad (yc ad cA) 41) (fl_A ad 41)) ([.long x1] : List Value).toArray s 0 0 (fl_A ad 41)) (F0 m 10 ls []) := by
    intro k_10
    induction k_10 with
    | zero =>
      intro r ls H locs hbd hl hP hS kk
      have hG : g_MD_upRest_L10  0 r = _ := g_MD_upRest_L10.eq_1 ..
      refine lv_iload hx hb d_MD_upRest_10 (lv_at hl 1 rfl) ?_
      refine lv_bipush (v := 7) hx hb d_MD_upRest_12 (by decide) ?_
      refine lv_icmp_lt (tgt := 50) hx hb d_MD_upRest_14 (by decide) (fun _ => ?_) (fun h_1 => absurd (by decide) h_1)
      have hl := lv_sub (l' := [(2, .long r)]) hl [0] rfl
      exact kk (r) ls _ _ hG.symm hl hP hS
    | succ k_10 ih_10 =>
      intro r ls H locs hbd hl hP hS kk
      have hG : g_MD_upRest_L10  (k_10 + 1) r = _ := g_MD_upRest_L10.eq_2 ..
      refine lv_iload hx hb d_MD_upRest_10 (lv_at hl 1 rfl) ?_
      refine lv_bipush (v := 7) hx hb d_MD_upRest_12 (by decide) ?_
      refine lv_icmp_lt (tgt := 50) hx hb d_MD_upRest_14 (by decide) (fun h_2 => absurd h_2 (fl_nlt (b := 7) rfl (by omega) (by omega))) (fun _ => ?_)
      refine lv_lload_n hx hb d_MD_upRest_17 rfl (lv_at hl 0 rfl) ?_
      refine lv_iload hx hb d_MD_upRest_18 (lv_at hl 1 rfl) ?_
      refine lv_lshr (v := j_lshr r (nI ((k_10 + 1) + 6))) hx hb d_MD_upRest_20 rfl ?_
      refine lv_lconst (v := 1) hx hb d_MD_upRest_21 (by decide) ?_
      refine lv_land hx hb d_MD_upRest_22 ?_
      refine lv_lconst (v := 0) hx hb d_MD_upRest_23 (by decide) ?_
      refine W.lcmp hx hb d_MD_upRest_24 ?_
      refine lv_if_eq (tgt := 42) hx hb d_MD_upRest_25 (by decide) (fun h_3 => ?_) (fun h_3 => ?_)
      ·
        have hG := hG.trans (if_pos h_3)
        refine lv_lload_n hx hb d_MD_upRest_42 rfl (lv_at hl 0 rfl) ?_
        refine lv_lstore_n (lv' := [(2, .long r), (4, .int (nI ((k_10 + 1) + 6)))]) hx hb d_MD_upRest_43 rfl hl (by decide) rfl (fun ls hl => ?_)
        refine lv_iinc (k := 1) (v := nI (k_10 + 6)) (lv' := [(4, .int (nI (k_10 + 6))), (2, .long r)]) hx hb d_MD_upRest_44 hl rfl (fl_dec (k_10 + 6)) (by decide) rfl (fun ls hl => ?_)
        refine lv_goto (tgt := 10) hx hb d_MD_upRest_47 (by decide) ?_
        have hl := lv_sub (l' := [(2, .long r), (4, .int (nI (k_10 + 6)))]) hl [1, 0] rfl
        exact ih_10 r ls _ _ (by omega) hl hP hS (fun v ls H locs hv => kk v ls H locs (hv.trans hG.symm))
      ·
        have hG := hG.trans (if_neg h_3)
        refine lv_lload_n hx hb d_MD_upRest_28 rfl (lv_at hl 0 rfl) ?_
        refine lv_ldc2 (v := 197) hx hb hown (hts _ (List.mem_cons_of_mem _ tw_962)) d_MD_upRest_29 ?_
        refine lv_iload hx hb d_MD_upRest_32 (lv_at hl 1 rfl) ?_
        refine lv_bipush (v := 7) hx hb d_MD_upRest_34 (by decide) ?_
        refine lv_isub hx hb d_MD_upRest_36 ?_
        refine lv_lshl (v := j_lshl 197 ((nI ((k_10 + 1) + 6)) - 7)) hx hb d_MD_upRest_37 rfl ?_
        refine lv_lxor hx hb d_MD_upRest_38 ?_
        refine lv_goto (tgt := 43) hx hb d_MD_upRest_39 (by decide) ?_
        refine lv_lstore_n (lv' := [(2, .long (r ^^^ (j_lshl 197 ((nI ((k_10 + 1) + 6)) - 7)))), (4, .int (nI ((k_10 + 1) + 6)))]) hx hb d_MD_upRest_43 rfl hl (by decide) rfl (fun ls hl => ?_)
        refine lv_iinc (k := 1) (v := nI (k_10 + 6)) (lv' := [(4, .int (nI (k_10 + 6))), (2, .long (r ^^^ (j_lshl 197 ((nI ((k_10 + 1) + 6)) - 7))))]) hx hb d_MD_upRest_44 hl rfl (fl_dec (k_10 + 6)) (by decide) rfl (fun ls hl => ?_)
        refine lv_goto (tgt := 10) hx hb d_MD_upRest_47 (by decide) ?_
        have hl := lv_sub (l' := [(2, .long (r ^^^ (j_lshl 197 ((nI ((k_10 + 1) + 6)) - 7)))), (4, .int (nI (k_10 + 6)))]) hl [1, 0] rfl
        exact ih_10 (r ^^^ (j_lshl 197 ((nI ((k_10 + 1) + 6)) - 7))) ls _ _ (by omega) hl hP hS (fun v ls H locs hv => kk v ls H locs (hv.trans hG.symm))
  have hl := lv_sub (l' := [(2, .long (x1 ^^^ 127)), (4, .int (nI (56 + 6)))]) hl [1, 0] rfl
  refine lp_10 56 (x1 ^^^ 127) ls _ _ (by omega) hl hP hS (fun v ls H locs hv hl hP hS => ?_)
  subst hv
  refine lv_lload_n hx hb d_MD_upRest_50 rfl (lv_at hl 0 rfl) ?_
  refine lv_l2i (v := (g_MD_upRest_L10  56 (x1 ^^^ 127)).toInt32) hx hb d_MD_upRest_51 rfl ?_
  exact fl_iret hx hb hr hlocks hP hS hG.symm rfl d_MD_upRest_52
theorem hd_MD_upRest : y_MD_upRest.cls ≠ "java/lang/invoke/MethodHandle" ∧ y_MD_upRest.cls ≠ "java/lang/invoke/VarHandle" ∧ (parseMethodDescriptor y_MD_upRest.desc).map (fun d => d.parameters.length) = some 1 := by decide +kernel
theorem kv_MD_upRest {R : Room} {s : State} {args : Array Value} {c0 : Cond} {own : String} {index : Nat} (hts : ∀ w ∈ c0 :: gw, w.before args s = true) (hl : (Cond.methodLink own index y_MD_upRest).before args s = true) (hR : 0 + 1 ≤ R.frames ∧ 8 + (5 + 11) + 0 ≤ R.locals) : CallB R s args own index y_MD_upRest b_MD_upRest 5 (some .int) w_MD_upRest ({ frames := 0, cells := 0, slots := 0, locals := 0 } : Room) 0 0 1 ∧ (Cond.static y_MD_upRest).before args s = true := ⟨callB_of 1 hts (gw_in tw_960) rfl rfl rfl (hts _ (List.mem_cons_of_mem _ tw_10)) hl hd_MD_upRest hR, hts _ (List.mem_cons_of_mem _ tw_959)⟩
def g_MD_times_L4 (x1 : Int32) (x2 : Int32) : Nat → Int32 → Int32
  | 0, pv => (pv)
  | k_4 + 1, pv => if ((pv <<< (1 &&& 31)) &&& 16) = 0 then (if ((j_ishr x2 (j_m1 (k_4 + 1))) &&& 1) = 0 then (g_MD_times_L4 x1 x2 k_4 (pv <<< (1 &&& 31))) else (g_MD_times_L4 x1 x2 k_4 ((pv <<< (1 &&& 31)) ^^^ x1))) else (if ((j_ishr x2 (j_m1 (k_4 + 1))) &&& 1) = 0 then (g_MD_times_L4 x1 x2 k_4 ((pv <<< (1 &&& 31)) ^^^ 19)) else (g_MD_times_L4 x1 x2 k_4 (((pv <<< (1 &&& 31)) ^^^ 19) ^^^ x1)))
def g_MD_times (x1 : Int32) (x2 : Int32) : Int32 :=
  (g_MD_times_L4 x1 x2 4 0)
set_option maxHeartbeats 400000 in
set_option maxRecDepth 100000 in
theorem c_MD_times (l : Launch) {D : va_G} {ad : Nat → Nat} {cA : Nat → ClassId} (hi : fl_inj ad 41) (M : fl_M) (x1 : Int32) (x2 : Int32) : Met l y_MD_times w_MD_times ({ frames := 0, cells := 0, slots := 0, locals := 0 } : Room) (va_Pc [.int x1, .int x2] (fl_B D cls (yt cA) ([] : fl_L) ([] : fl_FN) ([] : fl_MN) ad (yc ad cA) 41 M)) (va_Qi (fun r M' => r = (g_MD_times x1 x2) ∧ M' = M) (fl_E D cls ad (yc ad cA) 41) (fl_A ad 41)) 0 0 (fl_A ad 41) := by
  refine Met.ofW (cc := b_MD_times) (maxL := 4) (ret := (some .int)) (by decide) rfl ?_
  intro p e s m args below meth c s₁ B hml hv
  obtain ⟨rfl, hP, hK, hSt, hN⟩ := hv
  have hx := B.exec
  have hb := B.bytes
  have hr := B.returns
  have hts := atoms_spec (ws := w_MD_times) B.pre
  have hown : s.vm.findClass "FarLinkModel" = some m.cls := findClass_of_methodNamed B.named
  have hlocks := B.notSynchronized
  have hS : va_S (fl_A ad 41) s.heap s.heap [] := va_S.rf
  have hl := lv_entry ([.int x1, .int x2]) (n := 4) (Nat.le_of_ble_eq_true rfl)
  rw [lg_entry_eq]
  generalize (lg_sl ([.int x1, .int x2]) ++ List.replicate (4 - (lg_sl ([.int x1, .int x2])).length) Slot.unset).toArray = ls at hl ⊢
  have hl : lv_has ls 4 [(0, .int x1), (1, .int x2)] := hl
  have hG := g_MD_times.eq_1 x1 x2
  refine lv_iconst (v := 0) hx hb d_MD_times_0 (by decide) ?_
  refine lv_istore_n (lv' := [(2, .int 0), (0, .int x1), (1, .int x2)]) hx hb d_MD_times_1 rfl hl (by decide) rfl (fun ls hl => ?_)
  refine lv_iconst (v := 3) hx hb d_MD_times_2 (by decide) ?_
  refine lv_istore_n (lv' := [(3, .int 3), (2, .int 0), (0, .int x1), (1, .int x2)]) hx hb d_MD_times_3 rfl hl (by decide) rfl (fun ls hl => ?_)
  have lp_4 : ∀ (k_4 : Nat) (pv : Int32) (ls : Array Slot) (H : Heap) (locs : List Loc), k_4 ≤ 4 → lv_has ls 4 [(0, .int x1), (1, .int x2), (2, .int pv), (3, .int (j_m1 k_4))] → va_P D cls (fl_w ad (yc ad cA) 41 M) H → va_S (fl_A ad 41) s.heap H locs → (∀ (v : Int32) (ls : Array Slot) (H : Heap) (locs : List Loc), v = g_MD_times_L4 x1 x2 k_4 pv → lv_has ls 4 [(0, .int x1), (1, .int x2), (2, .int v)] → va_P D cls (fl_w ad (yc ad cA) 41 M) H → va_S (fl_A ad 41) s.heap H locs → W p l e (headSpec w_MD_times ({ frames := 0, cells := 0, slots := 0, locals := 0 } : Room)).room s m ([.int x1, .int x2] : List Value).toArray below meth c H locs 0 0 (MQ below (va_Qi (fun r M' => r = (g_MD_times x1 x2) ∧ M' = M) (fl_E D cls ad (yc ad cA) 41) (fl_A ad 41)) ([.int x1, .int x2] : List Value).toArray s 0 0 (fl_A ad 41)) (F0 m 50 ls [])) → W p l e (headSpec w_MD_times ({ frames := 0, cells := 0, slots := 0, locals := 0 } : Room)).room s m ([.int x1, .int x2] : List Value).toArray below meth c H locs 0 0 (MQ below (va_Qi (fun r M' => r = (g_MD_times x1 x2) ∧ M' = M) (fl_E D cls ad (yc ad cA) 41) (fl_A ad 41)) ([.int x1, .int x2] : List Value).toArray s 0 0 (fl_A ad 41)) (F0 m 4 ls []) := by
    intro k_4
    induction k_4 with
    | zero =>
      intro pv ls H locs hbd hl hP hS kk
      have hG : g_MD_times_L4 x1 x2 0 pv = _ := g_MD_times_L4.eq_1 ..
      refine lv_iload_n hx hb d_MD_times_4 rfl (lv_at hl 3 rfl) ?_
      refine lv_if_lt (tgt := 50) hx hb d_MD_times_5 (by decide) (fun _ => ?_) (fun h_1 => absurd (by decide) h_1)
      have hl := lv_sub (l' := [(0, .int x1), (1, .int x2), (2, .int pv)]) hl [0, 1, 2] rfl
      exact kk (pv) ls _ _ hG.symm hl hP hS
    | succ k_4 ih_4 =>
      intro pv ls H locs hbd hl hP hS kk
      have hG : g_MD_times_L4 x1 x2 (k_4 + 1) pv = _ := g_MD_times_L4.eq_2 ..
      refine lv_iload_n hx hb d_MD_times_4 rfl (lv_at hl 3 rfl) ?_
      refine lv_if_lt (tgt := 50) hx hb d_MD_times_5 (by decide) (fun h_2 => absurd h_2 ((m1_all _ (by omega)).2)) (fun _ => ?_)
      refine lv_iload_n hx hb d_MD_times_8 rfl (lv_at hl 2 rfl) ?_
      refine lv_iconst (v := 1) hx hb d_MD_times_9 (by decide) ?_
      refine lv_ishl hx hb d_MD_times_10 ?_
      refine lv_istore_n (lv' := [(2, .int (pv <<< (1 &&& 31))), (0, .int x1), (1, .int x2), (3, .int (j_m1 (k_4 + 1)))]) hx hb d_MD_times_11 rfl hl (by decide) rfl (fun ls hl => ?_)
      refine lv_iload_n hx hb d_MD_times_12 rfl (lv_at hl 0 rfl) ?_
      refine lv_bipush (v := 16) hx hb d_MD_times_13 (by decide) ?_
      refine lv_iand hx hb d_MD_times_15 ?_
      refine lv_if_eq (tgt := 26) hx hb d_MD_times_16 (by decide) (fun h_3 => ?_) (fun h_3 => ?_)
      ·
        have hG := hG.trans (if_pos h_3)
        refine lv_iload_n hx hb d_MD_times_26 rfl (lv_at hl 0 rfl) ?_
        refine lv_istore_n (lv' := [(2, .int (pv <<< (1 &&& 31))), (0, .int x1), (1, .int x2), (3, .int (j_m1 (k_4 + 1)))]) hx hb d_MD_times_27 rfl hl (by decide) rfl (fun ls hl => ?_)
        refine lv_iload_n hx hb d_MD_times_28 rfl (lv_at hl 2 rfl) ?_
        refine lv_iload_n hx hb d_MD_times_29 rfl (lv_at hl 3 rfl) ?_
        refine lj_ishr hx hb d_MD_times_30 ?_
        refine lv_iconst (v := 1) hx hb d_MD_times_31 (by decide) ?_
        refine lv_iand hx hb d_MD_times_32 ?_
        refine lv_if_eq (tgt := 42) hx hb d_MD_times_33 (by decide) (fun h_4 => ?_) (fun h_4 => ?_)
        ·
          have hG := hG.trans (if_pos h_4)
          refine lv_iload_n hx hb d_MD_times_42 rfl (lv_at hl 0 rfl) ?_
          refine lv_istore_n (lv' := [(2, .int (pv <<< (1 &&& 31))), (0, .int x1), (1, .int x2), (3, .int (j_m1 (k_4 + 1)))]) hx hb d_MD_times_43 rfl hl (by decide) rfl (fun ls hl => ?_)
          refine lv_iinc (k := 3) (v := j_m1 k_4) (lv' := [(3, .int (j_m1 k_4)), (2, .int (pv <<< (1 &&& 31))), (0, .int x1), (1, .int x2)]) hx hb d_MD_times_44 hl rfl ((m1_all _ (by omega)).1) (by decide) rfl (fun ls hl => ?_)
          refine lv_goto (tgt := 4) hx hb d_MD_times_47 (by decide) ?_
          have hl := lv_sub (l' := [(0, .int x1), (1, .int x2), (2, .int (pv <<< (1 &&& 31))), (3, .int (j_m1 k_4))]) hl [2, 3, 1, 0] rfl
          exact ih_4 (pv <<< (1 &&& 31)) ls _ _ (by omega) hl hP hS (fun v ls H locs hv => kk v ls H locs (hv.trans hG.symm))
        ·
          have hG := hG.trans (if_neg h_4)
          refine lv_iload_n hx hb d_MD_times_36 rfl (lv_at hl 0 rfl) ?_
          refine lv_iload_n hx hb d_MD_times_37 rfl (lv_at hl 1 rfl) ?_
          refine lv_ixor hx hb d_MD_times_38 ?_
          refine lv_goto (tgt := 43) hx hb d_MD_times_39 (by decide) ?_
          refine lv_istore_n (lv' := [(2, .int ((pv <<< (1 &&& 31)) ^^^ x1)), (0, .int x1), (1, .int x2), (3, .int (j_m1 (k_4 + 1)))]) hx hb d_MD_times_43 rfl hl (by decide) rfl (fun ls hl => ?_)
          refine lv_iinc (k := 3) (v := j_m1 k_4) (lv' := [(3, .int (j_m1 k_4)), (2, .int ((pv <<< (1 &&& 31)) ^^^ x1)), (0, .int x1), (1, .int x2)]) hx hb d_MD_times_44 hl rfl ((m1_all _ (by omega)).1) (by decide) rfl (fun ls hl => ?_)
          refine lv_goto (tgt := 4) hx hb d_MD_times_47 (by decide) ?_
          have hl := lv_sub (l' := [(0, .int x1), (1, .int x2), (2, .int ((pv <<< (1 &&& 31)) ^^^ x1)), (3, .int (j_m1 k_4))]) hl [2, 3, 1, 0] rfl
          exact ih_4 ((pv <<< (1 &&& 31)) ^^^ x1) ls _ _ (by omega) hl hP hS (fun v ls H locs hv => kk v ls H locs (hv.trans hG.symm))
      ·
        have hG := hG.trans (if_neg h_3)
        refine lv_iload_n hx hb d_MD_times_19 rfl (lv_at hl 0 rfl) ?_
        refine lv_bipush (v := 19) hx hb d_MD_times_20 (by decide) ?_
        refine lv_ixor hx hb d_MD_times_22 ?_
        refine lv_goto (tgt := 27) hx hb d_MD_times_23 (by decide) ?_
        refine lv_istore_n (lv' := [(2, .int ((pv <<< (1 &&& 31)) ^^^ 19)), (0, .int x1), (1, .int x2), (3, .int (j_m1 (k_4 + 1)))]) hx hb d_MD_times_27 rfl hl (by decide) rfl (fun ls hl => ?_)
        refine lv_iload_n hx hb d_MD_times_28 rfl (lv_at hl 2 rfl) ?_
        refine lv_iload_n hx hb d_MD_times_29 rfl (lv_at hl 3 rfl) ?_
        refine lj_ishr hx hb d_MD_times_30 ?_
        refine lv_iconst (v := 1) hx hb d_MD_times_31 (by decide) ?_
        refine lv_iand hx hb d_MD_times_32 ?_
        refine lv_if_eq (tgt := 42) hx hb d_MD_times_33 (by decide) (fun h_5 => ?_) (fun h_5 => ?_)
        ·
          have hG := hG.trans (if_pos h_5)
          refine lv_iload_n hx hb d_MD_times_42 rfl (lv_at hl 0 rfl) ?_
          refine lv_istore_n (lv' := [(2, .int ((pv <<< (1 &&& 31)) ^^^ 19)), (0, .int x1), (1, .int x2), (3, .int (j_m1 (k_4 + 1)))]) hx hb d_MD_times_43 rfl hl (by decide) rfl (fun ls hl => ?_)
          refine lv_iinc (k := 3) (v := j_m1 k_4) (lv' := [(3, .int (j_m1 k_4)), (2, .int ((pv <<< (1 &&& 31)) ^^^ 19)), (0, .int x1), (1, .int x2)]) hx hb d_MD_times_44 hl rfl ((m1_all _ (by omega)).1) (by decide) rfl (fun ls hl => ?_)
          refine lv_goto (tgt := 4) hx hb d_MD_times_47 (by decide) ?_
          have hl := lv_sub (l' := [(0, .int x1), (1, .int x2), (2, .int ((pv <<< (1 &&& 31)) ^^^ 19)), (3, .int (j_m1 k_4))]) hl [2, 3, 1, 0] rfl
          exact ih_4 ((pv <<< (1 &&& 31)) ^^^ 19) ls _ _ (by omega) hl hP hS (fun v ls H locs hv => kk v ls H locs (hv.trans hG.symm))
        ·
          have hG := hG.trans (if_neg h_5)
          refine lv_iload_n hx hb d_MD_times_36 rfl (lv_at hl 0 rfl) ?_
          refine lv_iload_n hx hb d_MD_times_37 rfl (lv_at hl 1 rfl) ?_
          refine lv_ixor hx hb d_MD_times_38 ?_
          refine lv_goto (tgt := 43) hx hb d_MD_times_39 (by decide) ?_
          refine lv_istore_n (lv' := [(2, .int (((pv <<< (1 &&& 31)) ^^^ 19) ^^^ x1)), (0, .int x1), (1, .int x2), (3, .int (j_m1 (k_4 + 1)))]) hx hb d_MD_times_43 rfl hl (by decide) rfl (fun ls hl => ?_)
          refine lv_iinc (k := 3) (v := j_m1 k_4) (lv' := [(3, .int (j_m1 k_4)), (2, .int (((pv <<< (1 &&& 31)) ^^^ 19) ^^^ x1)), (0, .int x1), (1, .int x2)]) hx hb d_MD_times_44 hl rfl ((m1_all _ (by omega)).1) (by decide) rfl (fun ls hl => ?_)
          refine lv_goto (tgt := 4) hx hb d_MD_times_47 (by decide) ?_
          have hl := lv_sub (l' := [(0, .int x1), (1, .int x2), (2, .int (((pv <<< (1 &&& 31)) ^^^ 19) ^^^ x1)), (3, .int (j_m1 k_4))]) hl [2, 3, 1, 0] rfl
          exact ih_4 (((pv <<< (1 &&& 31)) ^^^ 19) ^^^ x1) ls _ _ (by omega) hl hP hS (fun v ls H locs hv => kk v ls H locs (hv.trans hG.symm))
  have hl := lv_sub (l' := [(0, .int x1), (1, .int x2), (2, .int 0), (3, .int (j_m1 4))]) hl [2, 3, 1, 0] rfl
  refine lp_4 4 0 ls _ _ (by omega) hl hP hS (fun v ls H locs hv hl hP hS => ?_)
  subst hv
  refine lv_iload_n hx hb d_MD_times_50 rfl (lv_at hl 2 rfl) ?_
  exact fl_iret hx hb hr hlocks hP hS hG.symm rfl d_MD_times_51
theorem hd_MD_times : y_MD_times.cls ≠ "java/lang/invoke/MethodHandle" ∧ y_MD_times.cls ≠ "java/lang/invoke/VarHandle" ∧ (parseMethodDescriptor y_MD_times.desc).map (fun d => d.parameters.length) = some 2 := by decide +kernel
theorem kv_MD_times {R : Room} {s : State} {args : Array Value} {c0 : Cond} {own : String} {index : Nat} (hts : ∀ w ∈ c0 :: gw, w.before args s = true) (hl : (Cond.methodLink own index y_MD_times).before args s = true) (hR : 0 + 1 ≤ R.frames ∧ 8 + (4 + 11) + 0 ≤ R.locals) : CallB R s args own index y_MD_times b_MD_times 4 (some .int) w_MD_times ({ frames := 0, cells := 0, slots := 0, locals := 0 } : Room) 0 0 2 ∧ (Cond.static y_MD_times).before args s = true := ⟨callB_of 2 hts (gw_in tw_779) rfl rfl rfl (hts _ (List.mem_cons_of_mem _ tw_10)) hl hd_MD_times hR, hts _ (List.mem_cons_of_mem _ tw_778)⟩
def g_MD_power_L4  : Nat → Nat → Int32 → Int32
  | 0, i_4, pv => (pv)
  | k_4 + 1, i_4, pv => g_MD_power_L4  k_4 (i_4 + 1) (g_MD_times pv 2)
def g_MD_power (n : Nat) (x1 : Int32) : Int32 :=
  (g_MD_power_L4  (n % 15) 0 1)
set_option maxHeartbeats 400000 in
set_option maxRecDepth 100000 in
theorem c_MD_power (l : Launch) {D : va_G} {ad : Nat → Nat} {cA : Nat → ClassId} (hi : fl_inj ad 41) (n : Nat) (M : fl_M) (x1 : Int32) (hx1 : x1 = nI n) (hn : n < 2 ^ 31) : Met l y_MD_power w_MD_power ({ frames := 1, cells := 0, slots := 0, locals := 23 } : Room) (va_Pc [.int x1] (fl_B D cls (yt cA) ([] : fl_L) ([] : fl_FN) ([] : fl_MN) ad (yc ad cA) 41 M)) (va_Qi (fun r M' => r = (g_MD_power n x1) ∧ M' = M) (fl_E D cls ad (yc ad cA) 41) (fl_A ad 41)) 0 0 (fl_A ad 41) := by
  refine Met.ofW (cc := b_MD_power) (maxL := 3) (ret := (some .int)) (by decide) rfl ?_
  intro p e s m args below meth c s₁ B hml hv
  obtain ⟨rfl, hP, hK, hSt, hN⟩ := hv
  have hx := B.exec
  have hb := B.bytes
  have hr := B.returns
  have hts := atoms_spec (ws := w_MD_power) B.pre
  have hown : s.vm.findClass "FarLinkModel" = some m.cls := findClass_of_methodNamed B.named
  have hlocks := B.notSynchronized
  have hS : va_S (fl_A ad 41) s.heap s.heap [] := va_S.rf
  have hl := lv_entry ([.int x1]) (n := 3) (Nat.le_of_ble_eq_true rfl)
  rw [lg_entry_eq]
  generalize (lg_sl ([.int x1]) ++ List.replicate (3 - (lg_sl ([.int x1])).length) Slot.unset).toArray = ls at hl ⊢
  have hl : lv_has ls 3 [(0, .int x1)] := hl
  have hG := g_MD_power.eq_1 n x1
  refine lv_iconst (v := 1) hx hb d_MD_power_0 (by decide) ?_
  refine lv_istore_n (lv' := [(1, .int 1), (0, .int x1)]) hx hb d_MD_power_1 rfl hl (by decide) rfl (fun ls hl => ?_)
  refine lv_iconst (v := 0) hx hb d_MD_power_2 (by decide) ?_
  refine lv_istore_n (lv' := [(2, .int 0), (1, .int 1), (0, .int x1)]) hx hb d_MD_power_3 rfl hl (by decide) rfl (fun ls hl => ?_)
  have lp_4 : ∀ (k_4 : Nat) (i_4 : Nat) (pv : Int32) (ls : Array Slot) (H : Heap) (locs : List Loc), i_4 + k_4 = n % 15 → lv_has ls 3 [(0, .int x1), (1, .int pv), (2, .int (nI i_4))] → va_P D cls (fl_w ad (yc ad cA) 41 M) H → va_S (fl_A ad 41) s.heap H locs → (∀ (v : Int32) (ls : Array Slot) (H : Heap) (locs : List Loc), v = g_MD_power_L4  k_4 i_4 pv → lv_has ls 3 [(0, .int x1), (1, .int v)] → va_P D cls (fl_w ad (yc ad cA) 41 M) H → va_S (fl_A ad 41) s.heap H locs → W p l e (headSpec w_MD_power ({ frames := 1, cells := 0, slots := 0, locals := 23 } : Room)).room s m ([.int x1] : List Value).toArray below meth c H locs 0 0 (MQ below (va_Qi (fun r M' => r = (g_MD_power n x1) ∧ M' = M) (fl_E D cls ad (yc ad cA) 41) (fl_A ad 41)) ([.int x1] : List Value).toArray s 0 0 (fl_A ad 41)) (F0 m 24 ls [])) → W p l e (headSpec w_MD_power ({ frames := 1, cells := 0, slots := 0, locals := 23 } : Room)).room s m ([.int x1] : List Value).toArray below meth c H locs 0 0 (MQ below (va_Qi (fun r M' => r = (g_MD_power n x1) ∧ M' = M) (fl_E D cls ad (yc ad cA) 41) (fl_A ad 41)) ([.int x1] : List Value).toArray s 0 0 (fl_A ad 41)) (F0 m 4 ls []) := by
    intro k_4
    induction k_4 with
    | zero =>
      intro i_4 pv ls H locs hbd hl hP hS kk
      have hG : g_MD_power_L4  0 i_4 pv = _ := g_MD_power_L4.eq_1 ..
      refine lv_iload_n hx hb d_MD_power_4 rfl (lv_at hl 2 rfl) ?_
      refine lv_iload_n hx hb d_MD_power_5 rfl (lv_at hl 0 rfl) ?_
      refine lv_bipush (v := 15) hx hb d_MD_power_6 (by decide) ?_
      refine lv_irem hx hb d_MD_power_8 (by decide) ?_
      refine lv_icmp_ge (tgt := 24) hx hb d_MD_power_9 (by decide) (fun _ => ?_) (fun h_1 => absurd (fl_le (b := n % 15) (fl_rem hx1 hn) (by omega) (by omega)) h_1)
      have hl := lv_sub (l' := [(0, .int x1), (1, .int pv)]) hl [0, 1] rfl
      exact kk (pv) ls _ _ hG.symm hl hP hS
    | succ k_4 ih_4 =>
      intro i_4 pv ls H locs hbd hl hP hS kk
      have hG : g_MD_power_L4  (k_4 + 1) i_4 pv = _ := g_MD_power_L4.eq_2 ..
      refine lv_iload_n hx hb d_MD_power_4 rfl (lv_at hl 2 rfl) ?_
      refine lv_iload_n hx hb d_MD_power_5 rfl (lv_at hl 0 rfl) ?_
      refine lv_bipush (v := 15) hx hb d_MD_power_6 (by decide) ?_
      refine lv_irem hx hb d_MD_power_8 (by decide) ?_
      refine lv_icmp_ge (tgt := 24) hx hb d_MD_power_9 (by decide) (fun h_2 => absurd h_2 (fl_nle (b := n % 15) (fl_rem hx1 hn) (by omega) (by omega))) (fun _ => ?_)
      refine lv_iload_n hx hb d_MD_power_12 rfl (lv_at hl 1 rfl) ?_
      refine lv_iconst (v := 2) hx hb d_MD_power_13 (by decide) ?_
      refine fl_calli (va_runS (As := [.int pv, .int 2]) (rest := []) ⟨hx, hb, hml, hown, hts⟩ (c_MD_times l hi M pv 2) (kv_MD_times hts (hts _ (List.mem_cons_of_mem _ tw_777)) ⟨Nat.le_of_ble_eq_true rfl, Nat.le_of_ble_eq_true rfl⟩) (fl_preS hK hSt hN hS hP) rfl rfl hl.1 rfl (lv_room (Nat.le_of_ble_eq_true rfl)) d_MD_power_14 ⟨Nat.zero_le _, Nat.zero_le _⟩) hS (fun H locs hP hS => ?_)
      refine lv_istore_n (lv' := [(1, .int (g_MD_times pv 2)), (0, .int x1), (2, .int (nI i_4))]) hx hb d_MD_power_17 rfl hl (by decide) rfl (fun ls hl => ?_)
      refine lv_iinc (k := 2) (v := nI (i_4 + 1)) (lv' := [(2, .int (nI (i_4 + 1))), (1, .int (g_MD_times pv 2)), (0, .int x1)]) hx hb d_MD_power_18 hl rfl (fl_inc _) (by decide) rfl (fun ls hl => ?_)
      refine lv_goto (tgt := 4) hx hb d_MD_power_21 (by decide) ?_
      have hl := lv_sub (l' := [(0, .int x1), (1, .int (g_MD_times pv 2)), (2, .int (nI (i_4 + 1)))]) hl [2, 1, 0] rfl
      exact ih_4 (i_4 + 1) (g_MD_times pv 2) ls _ _ (by omega) hl hP hS (fun v ls H locs hv => kk v ls H locs (hv.trans hG.symm))
  have hl := lv_sub (l' := [(0, .int x1), (1, .int 1), (2, .int (nI 0))]) hl [2, 1, 0] rfl
  refine lp_4 (n % 15) 0 1 ls _ _ (by omega) hl hP hS (fun v ls H locs hv hl hP hS => ?_)
  subst hv
  refine lv_iload_n hx hb d_MD_power_24 rfl (lv_at hl 1 rfl) ?_
  exact fl_iret hx hb hr hlocks hP hS hG.symm rfl d_MD_power_25
theorem hd_MD_power : y_MD_power.cls ≠ "java/lang/invoke/MethodHandle" ∧ y_MD_power.cls ≠ "java/lang/invoke/VarHandle" ∧ (parseMethodDescriptor y_MD_power.desc).map (fun d => d.parameters.length) = some 1 := by decide +kernel
theorem kv_MD_power {R : Room} {s : State} {args : Array Value} {c0 : Cond} {own : String} {index : Nat} (hts : ∀ w ∈ c0 :: gw, w.before args s = true) (hl : (Cond.methodLink own index y_MD_power).before args s = true) (hR : 1 + 1 ≤ R.frames ∧ 8 + (3 + 11) + 23 ≤ R.locals) : CallB R s args own index y_MD_power b_MD_power 3 (some .int) w_MD_power ({ frames := 1, cells := 0, slots := 0, locals := 23 } : Room) 0 0 1 ∧ (Cond.static y_MD_power).before args s = true := ⟨callB_of 1 hts (gw_in tw_776) rfl rfl rfl (hts _ (List.mem_cons_of_mem _ tw_10)) hl hd_MD_power hR, hts _ (List.mem_cons_of_mem _ tw_775)⟩
def g_MD_downRest_L22 (x1 : Int64) (k_4 : Nat) : Nat → Int32 → Int32
  | 0, v5 => (v5)
  | k_22 + 1, v5 => g_MD_downRest_L22 x1 k_4 k_22 ((g_MD_times v5 (g_MD_power (k_4 + 1) (nI ((k_4 + 1) + 0)))) ^^^ (((j_lshr x1 (4 * (j_m1 (k_22 + 1)))) &&& 15).toInt32))
def g_MD_downRest_L4 (x1 : Int64) : Nat → Int32 → Int32
  | 0, al => (al)
  | k_4 + 1, al => g_MD_downRest_L4 x1 k_4 ((al <<< (4 &&& 31)) ||| (g_MD_downRest_L22 x1 k_4 15 0))
def g_MD_downRest (x1 : Int64) : Int32 :=
  (g_MD_downRest_L4 x1 4 0)
set_option maxHeartbeats 400000 in
set_option maxRecDepth 100000 in
theorem c_MD_downRest (l : Launch) {D : va_G} {ad : Nat → Nat} {cA : Nat → ClassId} (hi : fl_inj ad 41) (M : fl_M) (x1 : Int64) : Met l y_MD_downRest w_MD_downRest ({ frames := 2, cells := 0, slots := 0, locals := 45 } : Room) (va_Pc [.long x1] (fl_B D cls (yt cA) ([] : fl_L) ([] : fl_FN) ([] : fl_MN) ad (yc ad cA) 41 M)) (va_Qi (fun r M' => r = (g_MD_downRest x1) ∧ M' = M) (fl_E D cls ad (yc ad cA) 41) (fl_A ad 41)) 0 0 (fl_A ad 41) := by
  refine Met.ofW (cc := b_MD_downRest) (maxL := 7) (ret := (some .int)) (by decide) rfl ?_
  intro p e s m args below meth c s₁ B hml hv
  obtain ⟨rfl, hP, hK, hSt, hN⟩ := hv
  have hx := B.exec
  have hb := B.bytes
  have hr := B.returns
  have hts := atoms_spec (ws := w_MD_downRest) B.pre
  have hown : s.vm.findClass "FarLinkModel" = some m.cls := findClass_of_methodNamed B.named
  have hlocks := B.notSynchronized
  have hS : va_S (fl_A ad 41) s.heap s.heap [] := va_S.rf
  have hl := lv_entry ([.long x1]) (n := 7) (Nat.le_of_ble_eq_true rfl)
  rw [lg_entry_eq]
  generalize (lg_sl ([.long x1]) ++ List.replicate (7 - (lg_sl ([.long x1])).length) Slot.unset).toArray = ls at hl ⊢
  have hl : lv_has ls 7 [(0, .long x1)] := hl
  have hG := g_MD_downRest.eq_1 x1
  refine lv_iconst (v := 0) hx hb d_MD_downRest_0 (by decide) ?_
  refine lv_istore_n (lv' := [(2, .int 0), (0, .long x1)]) hx hb d_MD_downRest_1 rfl hl (by decide) rfl (fun ls hl => ?_)
  refine lv_iconst (v := 4) hx hb d_MD_downRest_2 (by decide) ?_
  refine lv_istore_n (lv' := [(3, .int 4), (2, .int 0), (0, .long x1)]) hx hb d_MD_downRest_3 rfl hl (by decide) rfl (fun ls hl => ?_)
  have lp_4 : ∀ (k_4 : Nat) (al : Int32) (ls : Array Slot) (H : Heap) (locs : List Loc), k_4 ≤ 4 → lv_has ls 7 [(0, .long x1), (2, .int al), (3, .int (nI (k_4 + 0)))] → va_P D cls (fl_w ad (yc ad cA) 41 M) H → va_S (fl_A ad 41) s.heap H locs → (∀ (v : Int32) (ls : Array Slot) (H : Heap) (locs : List Loc), v = g_MD_downRest_L4 x1 k_4 al → lv_has ls 7 [(0, .long x1), (2, .int v)] → va_P D cls (fl_w ad (yc ad cA) 41 M) H → va_S (fl_A ad 41) s.heap H locs → W p l e (headSpec w_MD_downRest ({ frames := 2, cells := 0, slots := 0, locals := 45 } : Room)).room s m ([.long x1] : List Value).toArray below meth c H locs 0 0 (MQ below (va_Qi (fun r M' => r = (g_MD_downRest x1) ∧ M' = M) (fl_E D cls ad (yc ad cA) 41) (fl_A ad 41)) ([.long x1] : List Value).toArray s 0 0 (fl_A ad 41)) (F0 m 67 ls [])) → W p l e (headSpec w_MD_downRest ({ frames := 2, cells := 0, slots := 0, locals := 45 } : Room)).room s m ([.long x1] : List Value).toArray below meth c H locs 0 0 (MQ below (va_Qi (fun r M' => r = (g_MD_downRest x1) ∧ M' = M) (fl_E D cls ad (yc ad cA) 41) (fl_A ad 41)) ([.long x1] : List Value).toArray s 0 0 (fl_A ad 41)) (F0 m 4 ls []) := by
    intro k_4
    induction k_4 with
    | zero =>
      intro al ls H locs hbd hl hP hS kk
      have hG : g_MD_downRest_L4 x1 0 al = _ := g_MD_downRest_L4.eq_1 ..
      refine lv_iload_n hx hb d_MD_downRest_4 rfl (lv_at hl 2 rfl) ?_
      refine lv_iconst (v := 1) hx hb d_MD_downRest_5 (by decide) ?_
      refine lv_icmp_lt (tgt := 67) hx hb d_MD_downRest_6 (by decide) (fun _ => ?_) (fun h_1 => absurd (by decide) h_1)
      have hl := lv_sub (l' := [(0, .long x1), (2, .int al)]) hl [0, 1] rfl
      exact kk (al) ls _ _ hG.symm hl hP hS
    | succ k_4 ih_4 =>
      intro al ls H locs hbd hl hP hS kk
      have hG : g_MD_downRest_L4 x1 (k_4 + 1) al = _ := g_MD_downRest_L4.eq_2 ..
      refine lv_iload_n hx hb d_MD_downRest_4 rfl (lv_at hl 2 rfl) ?_
      refine lv_iconst (v := 1) hx hb d_MD_downRest_5 (by decide) ?_
      refine lv_icmp_lt (tgt := 67) hx hb d_MD_downRest_6 (by decide) (fun h_2 => absurd h_2 (fl_nlt (b := 1) rfl (by omega) (by omega))) (fun _ => ?_)
      refine lv_iload_n hx hb d_MD_downRest_9 rfl (lv_at hl 2 rfl) ?_
      refine fl_calli (va_runS (As := [.int (nI ((k_4 + 1) + 0))]) (rest := []) ⟨hx, hb, hml, hown, hts⟩ (c_MD_power l hi (k_4 + 1) M (nI ((k_4 + 1) + 0)) (rfl) (by omega)) (kv_MD_power hts (hts _ (List.mem_cons_of_mem _ tw_774)) ⟨Nat.le_of_ble_eq_true rfl, Nat.le_of_ble_eq_true rfl⟩) (fl_preS hK hSt hN hS hP) rfl rfl hl.1 rfl (lv_room (Nat.le_of_ble_eq_true rfl)) d_MD_downRest_10 ⟨Nat.zero_le _, Nat.zero_le _⟩) hS (fun H locs hP hS => ?_)
      refine lv_istore (lv' := [(4, .int (g_MD_power (k_4 + 1) (nI ((k_4 + 1) + 0)))), (0, .long x1), (2, .int al), (3, .int (nI ((k_4 + 1) + 0)))]) hx hb d_MD_downRest_13 hl (by decide) rfl (fun ls hl => ?_)
      refine lv_iconst (v := 0) hx hb d_MD_downRest_15 (by decide) ?_
      refine lv_istore (lv' := [(5, .int 0), (4, .int (g_MD_power (k_4 + 1) (nI ((k_4 + 1) + 0)))), (0, .long x1), (2, .int al), (3, .int (nI ((k_4 + 1) + 0)))]) hx hb d_MD_downRest_16 hl (by decide) rfl (fun ls hl => ?_)
      refine lv_bipush (v := 14) hx hb d_MD_downRest_18 (by decide) ?_
      refine lv_istore (lv' := [(6, .int 14), (5, .int 0), (4, .int (g_MD_power (k_4 + 1) (nI ((k_4 + 1) + 0)))), (0, .long x1), (2, .int al), (3, .int (nI ((k_4 + 1) + 0)))]) hx hb d_MD_downRest_20 hl (by decide) rfl (fun ls hl => ?_)
      have lp_22 : ∀ (k_22 : Nat) (v5 : Int32) (ls : Array Slot) (H : Heap) (locs : List Loc), k_22 ≤ 15 → lv_has ls 7 [(0, .long x1), (2, .int al), (3, .int (nI ((k_4 + 1) + 0))), (4, .int (g_MD_power (k_4 + 1) (nI ((k_4 + 1) + 0)))), (5, .int v5), (6, .int (j_m1 k_22))] → va_P D cls (fl_w ad (yc ad cA) 41 M) H → va_S (fl_A ad 41) s.heap H locs → (∀ (v : Int32) (ls : Array Slot) (H : Heap) (locs : List Loc), v = g_MD_downRest_L22 x1 k_4 k_22 v5 → lv_has ls 7 [(0, .long x1), (2, .int al), (3, .int (nI ((k_4 + 1) + 0))), (4, .int (g_MD_power (k_4 + 1) (nI ((k_4 + 1) + 0)))), (5, .int v)] → va_P D cls (fl_w ad (yc ad cA) 41 M) H → va_S (fl_A ad 41) s.heap H locs → W p l e (headSpec w_MD_downRest ({ frames := 2, cells := 0, slots := 0, locals := 45 } : Room)).room s m ([.long x1] : List Value).toArray below meth c H locs 0 0 (MQ below (va_Qi (fun r M' => r = (g_MD_downRest x1) ∧ M' = M) (fl_E D cls ad (yc ad cA) 41) (fl_A ad 41)) ([.long x1] : List Value).toArray s 0 0 (fl_A ad 41)) (F0 m 54 ls [])) → W p l e (headSpec w_MD_downRest ({ frames := 2, cells := 0, slots := 0, locals := 45 } : Room)).room s m ([.long x1] : List Value).toArray below meth c H locs 0 0 (MQ below (va_Qi (fun r M' => r = (g_MD_downRest x1) ∧ M' = M) (fl_E D cls ad (yc ad cA) 41) (fl_A ad 41)) ([.long x1] : List Value).toArray s 0 0 (fl_A ad 41)) (F0 m 22 ls []) := by
        intro k_22
        induction k_22 with
        | zero =>
          intro v5 ls H locs hbd hl hP hS kk
          have hG : g_MD_downRest_L22 x1 k_4 0 v5 = _ := g_MD_downRest_L22.eq_1 ..
          refine lv_iload hx hb d_MD_downRest_22 (lv_at hl 5 rfl) ?_
          refine lv_if_lt (tgt := 54) hx hb d_MD_downRest_24 (by decide) (fun _ => ?_) (fun h_3 => absurd (by decide) h_3)
          have hl := lv_sub (l' := [(0, .long x1), (2, .int al), (3, .int (nI ((k_4 + 1) + 0))), (4, .int (g_MD_power (k_4 + 1) (nI ((k_4 + 1) + 0)))), (5, .int v5)]) hl [0, 1, 2, 3, 4] rfl
          exact kk (v5) ls _ _ hG.symm hl hP hS
        | succ k_22 ih_22 =>
          intro v5 ls H locs hbd hl hP hS kk
          have hG : g_MD_downRest_L22 x1 k_4 (k_22 + 1) v5 = _ := g_MD_downRest_L22.eq_2 ..
          refine lv_iload hx hb d_MD_downRest_22 (lv_at hl 5 rfl) ?_
          refine lv_if_lt (tgt := 54) hx hb d_MD_downRest_24 (by decide) (fun h_4 => absurd h_4 ((m1_all _ (by omega)).2)) (fun _ => ?_)
          refine lv_iload hx hb d_MD_downRest_27 (lv_at hl 4 rfl) ?_
          refine lv_iload hx hb d_MD_downRest_29 (lv_at hl 3 rfl) ?_
          refine fl_calli (va_runS (As := [.int v5, .int (g_MD_power (k_4 + 1) (nI ((k_4 + 1) + 0)))]) (rest := []) ⟨hx, hb, hml, hown, hts⟩ (c_MD_times l hi M v5 (g_MD_power (k_4 + 1) (nI ((k_4 + 1) + 0)))) (kv_MD_times hts (hts _ (List.mem_cons_of_mem _ tw_777)) ⟨Nat.le_of_ble_eq_true rfl, Nat.le_of_ble_eq_true rfl⟩) (fl_preS hK hSt hN hS hP) rfl rfl hl.1 rfl (lv_room (Nat.le_of_ble_eq_true rfl)) d_MD_downRest_31 ⟨Nat.zero_le _, Nat.zero_le _⟩) hS (fun H locs hP hS => ?_)
          refine lv_lload_n hx hb d_MD_downRest_34 rfl (lv_at hl 0 rfl) ?_
          refine lv_iconst (v := 4) hx hb d_MD_downRest_35 (by decide) ?_
          refine lv_iload hx hb d_MD_downRest_36 (lv_at hl 5 rfl) ?_
          refine lv_imul hx hb d_MD_downRest_38 ?_
          refine lv_lshr (v := j_lshr x1 (4 * (j_m1 (k_22 + 1)))) hx hb d_MD_downRest_39 rfl ?_
          refine lv_ldc2 (v := 15) hx hb hown (hts _ (List.mem_cons_of_mem _ tw_780)) d_MD_downRest_40 ?_
          refine lv_land hx hb d_MD_downRest_43 ?_
          refine lv_l2i (v := ((j_lshr x1 (4 * (j_m1 (k_22 + 1)))) &&& 15).toInt32) hx hb d_MD_downRest_44 rfl ?_
          refine lv_ixor hx hb d_MD_downRest_45 ?_
          refine lv_istore (lv' := [(5, .int ((g_MD_times v5 (g_MD_power (k_4 + 1) (nI ((k_4 + 1) + 0)))) ^^^ (((j_lshr x1 (4 * (j_m1 (k_22 + 1)))) &&& 15).toInt32))), (0, .long x1), (2, .int al), (3, .int (nI ((k_4 + 1) + 0))), (4, .int (g_MD_power (k_4 + 1) (nI ((k_4 + 1) + 0)))), (6, .int (j_m1 (k_22 + 1)))]) hx hb d_MD_downRest_46 hl (by decide) rfl (fun ls hl => ?_)
          refine lv_iinc (k := 5) (v := j_m1 k_22) (lv' := [(6, .int (j_m1 k_22)), (5, .int ((g_MD_times v5 (g_MD_power (k_4 + 1) (nI ((k_4 + 1) + 0)))) ^^^ (((j_lshr x1 (4 * (j_m1 (k_22 + 1)))) &&& 15).toInt32))), (0, .long x1), (2, .int al), (3, .int (nI ((k_4 + 1) + 0))), (4, .int (g_MD_power (k_4 + 1) (nI ((k_4 + 1) + 0))))]) hx hb d_MD_downRest_48 hl rfl ((m1_all _ (by omega)).1) (by decide) rfl (fun ls hl => ?_)
          refine lv_goto (tgt := 22) hx hb d_MD_downRest_51 (by decide) ?_
          have hl := lv_sub (l' := [(0, .long x1), (2, .int al), (3, .int (nI ((k_4 + 1) + 0))), (4, .int (g_MD_power (k_4 + 1) (nI ((k_4 + 1) + 0)))), (5, .int ((g_MD_times v5 (g_MD_power (k_4 + 1) (nI ((k_4 + 1) + 0)))) ^^^ (((j_lshr x1 (4 * (j_m1 (k_22 + 1)))) &&& 15).toInt32))), (6, .int (j_m1 k_22))]) hl [2, 3, 4, 5, 1, 0] rfl
          exact ih_22 ((g_MD_times v5 (g_MD_power (k_4 + 1) (nI ((k_4 + 1) + 0)))) ^^^ (((j_lshr x1 (4 * (j_m1 (k_22 + 1)))) &&& 15).toInt32)) ls _ _ (by omega) hl hP hS (fun v ls H locs hv => kk v ls H locs (hv.trans hG.symm))
      have hl := lv_sub (l' := [(0, .long x1), (2, .int al), (3, .int (nI ((k_4 + 1) + 0))), (4, .int (g_MD_power (k_4 + 1) (nI ((k_4 + 1) + 0)))), (5, .int 0), (6, .int (j_m1 15))]) hl [3, 4, 5, 2, 1, 0] rfl
      refine lp_22 15 0 ls _ _ (by omega) hl hP hS (fun v ls H locs hv hl hP hS => ?_)
      subst hv
      refine lv_iload_n hx hb d_MD_downRest_54 rfl (lv_at hl 1 rfl) ?_
      refine lv_iconst (v := 4) hx hb d_MD_downRest_55 (by decide) ?_
      refine lv_ishl hx hb d_MD_downRest_56 ?_
      refine lv_iload hx hb d_MD_downRest_57 (lv_at hl 4 rfl) ?_
      refine lv_ior hx hb d_MD_downRest_59 ?_
      refine lv_istore_n (lv' := [(2, .int ((al <<< (4 &&& 31)) ||| (g_MD_downRest_L22 x1 k_4 15 0))), (0, .long x1), (3, .int (nI ((k_4 + 1) + 0))), (4, .int (g_MD_power (k_4 + 1) (nI ((k_4 + 1) + 0)))), (5, .int (g_MD_downRest_L22 x1 k_4 15 0))]) hx hb d_MD_downRest_60 rfl hl (by decide) rfl (fun ls hl => ?_)
      refine lv_iinc (k := 2) (v := nI (k_4 + 0)) (lv' := [(3, .int (nI (k_4 + 0))), (2, .int ((al <<< (4 &&& 31)) ||| (g_MD_downRest_L22 x1 k_4 15 0))), (0, .long x1), (4, .int (g_MD_power (k_4 + 1) (nI ((k_4 + 1) + 0)))), (5, .int (g_MD_downRest_L22 x1 k_4 15 0))]) hx hb d_MD_downRest_61 hl rfl (fl_dec (k_4 + 0)) (by decide) rfl (fun ls hl => ?_)
      refine lv_goto (tgt := 4) hx hb d_MD_downRest_64 (by decide) ?_
      have hl := lv_sub (l' := [(0, .long x1), (2, .int ((al <<< (4 &&& 31)) ||| (g_MD_downRest_L22 x1 k_4 15 0))), (3, .int (nI (k_4 + 0)))]) hl [2, 1, 0] rfl
      exact ih_4 ((al <<< (4 &&& 31)) ||| (g_MD_downRest_L22 x1 k_4 15 0)) ls _ _ (by omega) hl hP hS (fun v ls H locs hv => kk v ls H locs (hv.trans hG.symm))
  have hl := lv_sub (l' := [(0, .long x1), (2, .int 0), (3, .int (nI (4 + 0)))]) hl [2, 1, 0] rfl
  refine lp_4 4 0 ls _ _ (by omega) hl hP hS (fun v ls H locs hv hl hP hS => ?_)
  subst hv
  refine lv_iload_n hx hb d_MD_downRest_67 rfl (lv_at hl 1 rfl) ?_
  exact fl_iret hx hb hr hlocks hP hS hG.symm rfl d_MD_downRest_68
theorem hd_MD_downRest : y_MD_downRest.cls ≠ "java/lang/invoke/MethodHandle" ∧ y_MD_downRest.cls ≠ "java/lang/invoke/VarHandle" ∧ (parseMethodDescriptor y_MD_downRest.desc).map (fun d => d.parameters.length) = some 1 := by decide +kernel
theorem kv_MD_downRest {R : Room} {s : State} {args : Array Value} {c0 : Cond} {own : String} {index : Nat} (hts : ∀ w ∈ c0 :: gw, w.before args s = true) (hl : (Cond.methodLink own index y_MD_downRest).before args s = true) (hR : 2 + 1 ≤ R.frames ∧ 8 + (7 + 11) + 45 ≤ R.locals) : CallB R s args own index y_MD_downRest b_MD_downRest 7 (some .int) w_MD_downRest ({ frames := 2, cells := 0, slots := 0, locals := 45 } : Room) 0 0 1 ∧ (Cond.static y_MD_downRest).before args s = true := ⟨callB_of 1 hts (gw_in tw_979) rfl rfl rfl (hts _ (List.mem_cons_of_mem _ tw_10)) hl hd_MD_downRest hR, hts _ (List.mem_cons_of_mem _ tw_978)⟩
def g_MD_effect_L4 (n : Nat) (x1 : Int32) (x2 : Int32) : Nat → Int32 → Int32
  | 0, al => (al)
  | k_4 + 1, al => g_MD_effect_L4 n x1 x2 k_4 ((al <<< (4 &&& 31)) ||| (g_MD_times x1 (g_MD_power ((k_4 + 1) * n) ((nI ((k_4 + 1) + 0)) * x2))))
def g_MD_effect (n : Nat) (x1 : Int32) (x2 : Int32) : Int32 :=
  (g_MD_effect_L4 n x1 x2 4 0)
set_option maxHeartbeats 400000 in
set_option maxRecDepth 100000 in
theorem c_MD_effect (l : Launch) {D : va_G} {ad : Nat → Nat} {cA : Nat → ClassId} (hi : fl_inj ad 41) (n : Nat) (M : fl_M) (x1 : Int32) (x2 : Int32) (hx2 : x2 = nI n) (hn : n < 16) : Met l y_MD_effect w_MD_effect ({ frames := 2, cells := 0, slots := 0, locals := 45 } : Room) (va_Pc [.int x1, .int x2] (fl_B D cls (yt cA) ([] : fl_L) ([] : fl_FN) ([] : fl_MN) ad (yc ad cA) 41 M)) (va_Qi (fun r M' => r = (g_MD_effect n x1 x2) ∧ M' = M) (fl_E D cls ad (yc ad cA) 41) (fl_A ad 41)) 0 0 (fl_A ad 41) := by
  refine Met.ofW (cc := b_MD_effect) (maxL := 5) (ret := (some .int)) (by decide) rfl ?_
  intro p e s m args below meth c s₁ B hml hv
  obtain ⟨rfl, hP, hK, hSt, hN⟩ := hv
  have hx := B.exec
  have hb := B.bytes
  have hr := B.returns
  have hts := atoms_spec (ws := w_MD_effect) B.pre
  have hown : s.vm.findClass "FarLinkModel" = some m.cls := findClass_of_methodNamed B.named
  have hlocks := B.notSynchronized
  have hS : va_S (fl_A ad 41) s.heap s.heap [] := va_S.rf
  have hl := lv_entry ([.int x1, .int x2]) (n := 5) (Nat.le_of_ble_eq_true rfl)
  rw [lg_entry_eq]
  generalize (lg_sl ([.int x1, .int x2]) ++ List.replicate (5 - (lg_sl ([.int x1, .int x2])).length) Slot.unset).toArray = ls at hl ⊢
  have hl : lv_has ls 5 [(0, .int x1), (1, .int x2)] := hl
  have hG := g_MD_effect.eq_1 n x1 x2
  refine lv_iconst (v := 0) hx hb d_MD_effect_0 (by decide) ?_
  refine lv_istore_n (lv' := [(2, .int 0), (0, .int x1), (1, .int x2)]) hx hb d_MD_effect_1 rfl hl (by decide) rfl (fun ls hl => ?_)
  refine lv_iconst (v := 4) hx hb d_MD_effect_2 (by decide) ?_
  refine lv_istore_n (lv' := [(3, .int 4), (2, .int 0), (0, .int x1), (1, .int x2)]) hx hb d_MD_effect_3 rfl hl (by decide) rfl (fun ls hl => ?_)
  have lp_4 : ∀ (k_4 : Nat) (al : Int32) (ls : Array Slot) (H : Heap) (locs : List Loc), k_4 ≤ 4 → lv_has ls 5 [(0, .int x1), (1, .int x2), (2, .int al), (3, .int (nI (k_4 + 0)))] → va_P D cls (fl_w ad (yc ad cA) 41 M) H → va_S (fl_A ad 41) s.heap H locs → (∀ (v : Int32) (ls : Array Slot) (H : Heap) (locs : List Loc), v = g_MD_effect_L4 n x1 x2 k_4 al → lv_has ls 5 [(0, .int x1), (1, .int x2), (2, .int v)] → va_P D cls (fl_w ad (yc ad cA) 41 M) H → va_S (fl_A ad 41) s.heap H locs → W p l e (headSpec w_MD_effect ({ frames := 2, cells := 0, slots := 0, locals := 45 } : Room)).room s m ([.int x1, .int x2] : List Value).toArray below meth c H locs 0 0 (MQ below (va_Qi (fun r M' => r = (g_MD_effect n x1 x2) ∧ M' = M) (fl_E D cls ad (yc ad cA) 41) (fl_A ad 41)) ([.int x1, .int x2] : List Value).toArray s 0 0 (fl_A ad 41)) (F0 m 34 ls [])) → W p l e (headSpec w_MD_effect ({ frames := 2, cells := 0, slots := 0, locals := 45 } : Room)).room s m ([.int x1, .int x2] : List Value).toArray below meth c H locs 0 0 (MQ below (va_Qi (fun r M' => r = (g_MD_effect n x1 x2) ∧ M' = M) (fl_E D cls ad (yc ad cA) 41) (fl_A ad 41)) ([.int x1, .int x2] : List Value).toArray s 0 0 (fl_A ad 41)) (F0 m 4 ls []) := by
    intro k_4
    induction k_4 with
    | zero =>
      intro al ls H locs hbd hl hP hS kk
      have hG : g_MD_effect_L4 n x1 x2 0 al = _ := g_MD_effect_L4.eq_1 ..
      refine lv_iload_n hx hb d_MD_effect_4 rfl (lv_at hl 3 rfl) ?_
      refine lv_iconst (v := 1) hx hb d_MD_effect_5 (by decide) ?_
      refine lv_icmp_lt (tgt := 34) hx hb d_MD_effect_6 (by decide) (fun _ => ?_) (fun h_1 => absurd (by decide) h_1)
      have hl := lv_sub (l' := [(0, .int x1), (1, .int x2), (2, .int al)]) hl [0, 1, 2] rfl
      exact kk (al) ls _ _ hG.symm hl hP hS
    | succ k_4 ih_4 =>
      intro al ls H locs hbd hl hP hS kk
      have hG : g_MD_effect_L4 n x1 x2 (k_4 + 1) al = _ := g_MD_effect_L4.eq_2 ..
      refine lv_iload_n hx hb d_MD_effect_4 rfl (lv_at hl 3 rfl) ?_
      refine lv_iconst (v := 1) hx hb d_MD_effect_5 (by decide) ?_
      refine lv_icmp_lt (tgt := 34) hx hb d_MD_effect_6 (by decide) (fun h_2 => absurd h_2 (fl_nlt (b := 1) rfl (by omega) (by omega))) (fun _ => ?_)
      refine lv_iload_n hx hb d_MD_effect_9 rfl (lv_at hl 3 rfl) ?_
      refine lv_iload_n hx hb d_MD_effect_10 rfl (lv_at hl 1 rfl) ?_
      refine lv_imul hx hb d_MD_effect_11 ?_
      refine fl_calli (va_runS (As := [.int ((nI ((k_4 + 1) + 0)) * x2)]) (rest := []) ⟨hx, hb, hml, hown, hts⟩ (c_MD_power l hi ((k_4 + 1) * n) M ((nI ((k_4 + 1) + 0)) * x2) (by rw [hx2]; exact pk_mul _ _) (Nat.lt_of_le_of_lt (Nat.mul_le_mul (show k_4 + 1 ≤ 4 by omega) (show n ≤ 16 by omega)) (by decide))) (kv_MD_power hts (hts _ (List.mem_cons_of_mem _ tw_774)) ⟨Nat.le_of_ble_eq_true rfl, Nat.le_of_ble_eq_true rfl⟩) (fl_preS hK hSt hN hS hP) rfl rfl hl.1 rfl (lv_room (Nat.le_of_ble_eq_true rfl)) d_MD_effect_12 ⟨Nat.zero_le _, Nat.zero_le _⟩) hS (fun H locs hP hS => ?_)
      refine lv_istore (lv' := [(4, .int (g_MD_power ((k_4 + 1) * n) ((nI ((k_4 + 1) + 0)) * x2))), (0, .int x1), (1, .int x2), (2, .int al), (3, .int (nI ((k_4 + 1) + 0)))]) hx hb d_MD_effect_15 hl (by decide) rfl (fun ls hl => ?_)
      refine lv_iload_n hx hb d_MD_effect_17 rfl (lv_at hl 3 rfl) ?_
      refine lv_iconst (v := 4) hx hb d_MD_effect_18 (by decide) ?_
      refine lv_ishl hx hb d_MD_effect_19 ?_
      refine lv_iload_n hx hb d_MD_effect_20 rfl (lv_at hl 1 rfl) ?_
      refine lv_iload hx hb d_MD_effect_21 (lv_at hl 0 rfl) ?_
      refine fl_calli (va_runS (As := [.int x1, .int (g_MD_power ((k_4 + 1) * n) ((nI ((k_4 + 1) + 0)) * x2))]) (rest := [.int (al <<< (4 &&& 31))]) ⟨hx, hb, hml, hown, hts⟩ (c_MD_times l hi M x1 (g_MD_power ((k_4 + 1) * n) ((nI ((k_4 + 1) + 0)) * x2))) (kv_MD_times hts (hts _ (List.mem_cons_of_mem _ tw_777)) ⟨Nat.le_of_ble_eq_true rfl, Nat.le_of_ble_eq_true rfl⟩) (fl_preS hK hSt hN hS hP) rfl rfl hl.1 rfl (lv_room (Nat.le_of_ble_eq_true rfl)) d_MD_effect_23 ⟨Nat.zero_le _, Nat.zero_le _⟩) hS (fun H locs hP hS => ?_)
      refine lv_ior hx hb d_MD_effect_26 ?_
      refine lv_istore_n (lv' := [(2, .int ((al <<< (4 &&& 31)) ||| (g_MD_times x1 (g_MD_power ((k_4 + 1) * n) ((nI ((k_4 + 1) + 0)) * x2))))), (4, .int (g_MD_power ((k_4 + 1) * n) ((nI ((k_4 + 1) + 0)) * x2))), (0, .int x1), (1, .int x2), (3, .int (nI ((k_4 + 1) + 0)))]) hx hb d_MD_effect_27 rfl hl (by decide) rfl (fun ls hl => ?_)
      refine lv_iinc (k := 4) (v := nI (k_4 + 0)) (lv' := [(3, .int (nI (k_4 + 0))), (2, .int ((al <<< (4 &&& 31)) ||| (g_MD_times x1 (g_MD_power ((k_4 + 1) * n) ((nI ((k_4 + 1) + 0)) * x2))))), (4, .int (g_MD_power ((k_4 + 1) * n) ((nI ((k_4 + 1) + 0)) * x2))), (0, .int x1), (1, .int x2)]) hx hb d_MD_effect_28 hl rfl (fl_dec (k_4 + 0)) (by decide) rfl (fun ls hl => ?_)
      refine lv_goto (tgt := 4) hx hb d_MD_effect_31 (by decide) ?_
      have hl := lv_sub (l' := [(0, .int x1), (1, .int x2), (2, .int ((al <<< (4 &&& 31)) ||| (g_MD_times x1 (g_MD_power ((k_4 + 1) * n) ((nI ((k_4 + 1) + 0)) * x2))))), (3, .int (nI (k_4 + 0)))]) hl [3, 4, 1, 0] rfl
      exact ih_4 ((al <<< (4 &&& 31)) ||| (g_MD_times x1 (g_MD_power ((k_4 + 1) * n) ((nI ((k_4 + 1) + 0)) * x2)))) ls _ _ (by omega) hl hP hS (fun v ls H locs hv => kk v ls H locs (hv.trans hG.symm))
  have hl := lv_sub (l' := [(0, .int x1), (1, .int x2), (2, .int 0), (3, .int (nI (4 + 0)))]) hl [2, 3, 1, 0] rfl
  refine lp_4 4 0 ls _ _ (by omega) hl hP hS (fun v ls H locs hv hl hP hS => ?_)
  subst hv
  refine lv_iload_n hx hb d_MD_effect_34 rfl (lv_at hl 2 rfl) ?_
  exact fl_iret hx hb hr hlocks hP hS hG.symm rfl d_MD_effect_35
theorem hd_MD_effect : y_MD_effect.cls ≠ "java/lang/invoke/MethodHandle" ∧ y_MD_effect.cls ≠ "java/lang/invoke/VarHandle" ∧ (parseMethodDescriptor y_MD_effect.desc).map (fun d => d.parameters.length) = some 2 := by decide +kernel
theorem kv_MD_effect {R : Room} {s : State} {args : Array Value} {c0 : Cond} {own : String} {index : Nat} (hts : ∀ w ∈ c0 :: gw, w.before args s = true) (hl : (Cond.methodLink own index y_MD_effect).before args s = true) (hR : 2 + 1 ≤ R.frames ∧ 8 + (5 + 11) + 45 ≤ R.locals) : CallB R s args own index y_MD_effect b_MD_effect 5 (some .int) w_MD_effect ({ frames := 2, cells := 0, slots := 0, locals := 45 } : Room) 0 0 2 ∧ (Cond.static y_MD_effect).before args s = true := ⟨callB_of 2 hts (gw_in tw_982) rfl rfl rfl (hts _ (List.mem_cons_of_mem _ tw_10)) hl hd_MD_effect hR, hts _ (List.mem_cons_of_mem _ tw_981)⟩
def g_MD_second_L4 (x1 : Int32) : Nat → Nat → Int32
  | 0, i_4 => (-1)
  | k_4 + 1, i_4 => if (g_MD_times (x1 &&& 15) (g_MD_power (15 - i_4) (15 - (nI i_4)))) = 0 then (g_MD_second_L4 x1 k_4 (i_4 + 1)) else (if (g_MD_effect i_4 (g_MD_times (x1 &&& 15) (g_MD_power (15 - i_4) (15 - (nI i_4)))) (nI i_4)) = x1 then ((16 * (nI i_4)) + (g_MD_times (x1 &&& 15) (g_MD_power (15 - i_4) (15 - (nI i_4))))) else (g_MD_second_L4 x1 k_4 (i_4 + 1)))
def g_MD_second (n : Nat) (x1 : Int32) (x2 : Int32) : Int32 :=
  g_MD_second_L4 x1 (15 - (n + 1)) (n + 1)
set_option maxHeartbeats 400000 in
set_option maxRecDepth 100000 in
theorem c_MD_second (l : Launch) {D : va_G} {ad : Nat → Nat} {cA : Nat → ClassId} (hi : fl_inj ad 41) (n : Nat) (M : fl_M) (x1 : Int32) (x2 : Int32) (hx2 : x2 = nI n) (hn : n < 15) : Met l y_MD_second w_MD_second ({ frames := 3, cells := 0, slots := 0, locals := 69 } : Room) (va_Pc [.int x1, .int x2] (fl_B D cls (yt cA) ([] : fl_L) ([] : fl_FN) ([] : fl_MN) ad (yc ad cA) 41 M)) (va_Qi (fun r M' => r = (g_MD_second n x1 x2) ∧ M' = M) (fl_E D cls ad (yc ad cA) 41) (fl_A ad 41)) 0 0 (fl_A ad 41) := by
  refine Met.ofW (cc := b_MD_second) (maxL := 4) (ret := (some .int)) (by decide) rfl ?_
  intro p e s m args below meth c s₁ B hml hv
  obtain ⟨rfl, hP, hK, hSt, hN⟩ := hv
  have hx := B.exec
  have hb := B.bytes
  have hr := B.returns
  have hts := atoms_spec (ws := w_MD_second) B.pre
  have hown : s.vm.findClass "FarLinkModel" = some m.cls := findClass_of_methodNamed B.named
  have hlocks := B.notSynchronized
  have hS : va_S (fl_A ad 41) s.heap s.heap [] := va_S.rf
  have hl := lv_entry ([.int x1, .int x2]) (n := 4) (Nat.le_of_ble_eq_true rfl)
  rw [lg_entry_eq]
  generalize (lg_sl ([.int x1, .int x2]) ++ List.replicate (4 - (lg_sl ([.int x1, .int x2])).length) Slot.unset).toArray = ls at hl ⊢
  have hl : lv_has ls 4 [(0, .int x1), (1, .int x2)] := hl
  have hG := g_MD_second.eq_1 n x1 x2
  refine lv_iload_n hx hb d_MD_second_0 rfl (lv_at hl 1 rfl) ?_
  refine lv_iconst (v := 1) hx hb d_MD_second_1 (by decide) ?_
  refine lv_iadd hx hb d_MD_second_2 ?_
  refine lv_istore_n (lv' := [(2, .int (x2 + 1)), (0, .int x1), (1, .int x2)]) hx hb d_MD_second_3 rfl hl (by decide) rfl (fun ls hl => ?_)
  have lp_4 : ∀ (k_4 : Nat) (i_4 : Nat) (ls : Array Slot) (H : Heap) (locs : List Loc), i_4 + k_4 = 15 → lv_has ls 4 [(0, .int x1), (2, .int (nI i_4))] → va_P D cls (fl_w ad (yc ad cA) 41 M) H → va_S (fl_A ad 41) s.heap H locs → g_MD_second n x1 x2 = g_MD_second_L4 x1 k_4 i_4 → W p l e (headSpec w_MD_second ({ frames := 3, cells := 0, slots := 0, locals := 69 } : Room)).room s m ([.int x1, .int x2] : List Value).toArray below meth c H locs 0 0 (MQ below (va_Qi (fun r M' => r = (g_MD_second n x1 x2) ∧ M' = M) (fl_E D cls ad (yc ad cA) 41) (fl_A ad 41)) ([.int x1, .int x2] : List Value).toArray s 0 0 (fl_A ad 41)) (F0 m 4 ls []) := by
    intro k_4
    induction k_4 with
    | zero =>
      intro i_4 ls H locs hbd hl hP hS hG
      have hG := hG.trans (g_MD_second_L4.eq_1 ..)
      refine lv_iload_n hx hb d_MD_second_4 rfl (lv_at hl 1 rfl) ?_
      refine lv_bipush (v := 15) hx hb d_MD_second_5 (by decide) ?_
      refine lv_icmp_ge (tgt := 51) hx hb d_MD_second_7 (by decide) (fun _ => ?_) (fun h_1 => absurd (fl_le (b := 15) rfl (by omega) (by omega)) h_1)
      refine lv_iconst (v := -1) hx hb d_MD_second_51 (by decide) ?_
      exact fl_iret hx hb hr hlocks hP hS hG.symm rfl d_MD_second_52
    | succ k_4 ih_4 =>
      intro i_4 ls H locs hbd hl hP hS hG
      have hG := hG.trans (g_MD_second_L4.eq_2 ..)
      refine lv_iload_n hx hb d_MD_second_4 rfl (lv_at hl 1 rfl) ?_
      refine lv_bipush (v := 15) hx hb d_MD_second_5 (by decide) ?_
      refine lv_icmp_ge (tgt := 51) hx hb d_MD_second_7 (by decide) (fun h_2 => absurd h_2 (fl_nle (b := 15) rfl (by omega) (by omega))) (fun _ => ?_)
      refine lv_iload_n hx hb d_MD_second_10 rfl (lv_at hl 0 rfl) ?_
      refine lv_bipush (v := 15) hx hb d_MD_second_11 (by decide) ?_
      refine lv_iand hx hb d_MD_second_13 ?_
      refine lv_bipush (v := 15) hx hb d_MD_second_14 (by decide) ?_
      refine lv_iload_n hx hb d_MD_second_16 rfl (lv_at hl 1 rfl) ?_
      refine lv_isub hx hb d_MD_second_17 ?_
      refine fl_calli (va_runS (As := [.int (15 - (nI i_4))]) (rest := [.int (x1 &&& 15)]) ⟨hx, hb, hml, hown, hts⟩ (c_MD_power l hi (15 - i_4) M (15 - (nI i_4)) (pk_sub (a := 15) (by omega)) (by omega)) (kv_MD_power hts (hts _ (List.mem_cons_of_mem _ tw_774)) ⟨Nat.le_of_ble_eq_true rfl, Nat.le_of_ble_eq_true rfl⟩) (fl_preS hK hSt hN hS hP) rfl rfl hl.1 rfl (lv_room (Nat.le_of_ble_eq_true rfl)) d_MD_second_18 ⟨Nat.zero_le _, Nat.zero_le _⟩) hS (fun H locs hP hS => ?_)
      refine fl_calli (va_runS (As := [.int (x1 &&& 15), .int (g_MD_power (15 - i_4) (15 - (nI i_4)))]) (rest := []) ⟨hx, hb, hml, hown, hts⟩ (c_MD_times l hi M (x1 &&& 15) (g_MD_power (15 - i_4) (15 - (nI i_4)))) (kv_MD_times hts (hts _ (List.mem_cons_of_mem _ tw_777)) ⟨Nat.le_of_ble_eq_true rfl, Nat.le_of_ble_eq_true rfl⟩) (fl_preS hK hSt hN hS hP) rfl rfl hl.1 rfl (lv_room (Nat.le_of_ble_eq_true rfl)) d_MD_second_21 ⟨Nat.zero_le _, Nat.zero_le _⟩) hS (fun H locs hP hS => ?_)
      refine lv_istore_n (lv' := [(3, .int (g_MD_times (x1 &&& 15) (g_MD_power (15 - i_4) (15 - (nI i_4))))), (0, .int x1), (2, .int (nI i_4))]) hx hb d_MD_second_24 rfl hl (by decide) rfl (fun ls hl => ?_)
      refine lv_iload_n hx hb d_MD_second_25 rfl (lv_at hl 0 rfl) ?_
      refine lv_if_eq (tgt := 45) hx hb d_MD_second_26 (by decide) (fun h_3 => ?_) (fun h_3 => ?_)
      ·
        have hG := hG.trans (if_pos h_3)
        refine lv_iinc (k := 2) (v := nI (i_4 + 1)) (lv' := [(2, .int (nI (i_4 + 1))), (3, .int (g_MD_times (x1 &&& 15) (g_MD_power (15 - i_4) (15 - (nI i_4))))), (0, .int x1)]) hx hb d_MD_second_45 hl rfl (fl_inc _) (by decide) rfl (fun ls hl => ?_)
        refine lv_goto (tgt := 4) hx hb d_MD_second_48 (by decide) ?_
        have hl := lv_sub (l' := [(0, .int x1), (2, .int (nI (i_4 + 1)))]) hl [2, 0] rfl
        exact ih_4 (i_4 + 1) ls _ _ (by omega) hl hP hS hG
      ·
        have hG := hG.trans (if_neg h_3)
        refine lv_iload_n hx hb d_MD_second_29 rfl (lv_at hl 0 rfl) ?_
        refine lv_iload_n hx hb d_MD_second_30 rfl (lv_at hl 2 rfl) ?_
        refine fl_calli (va_runS (As := [.int (g_MD_times (x1 &&& 15) (g_MD_power (15 - i_4) (15 - (nI i_4)))), .int (nI i_4)]) (rest := []) ⟨hx, hb, hml, hown, hts⟩ (c_MD_effect l hi i_4 M (g_MD_times (x1 &&& 15) (g_MD_power (15 - i_4) (15 - (nI i_4)))) (nI i_4) (rfl) (by omega)) (kv_MD_effect hts (hts _ (List.mem_cons_of_mem _ tw_980)) ⟨Nat.le_of_ble_eq_true rfl, Nat.le_of_ble_eq_true rfl⟩) (fl_preS hK hSt hN hS hP) rfl rfl hl.1 rfl (lv_room (Nat.le_of_ble_eq_true rfl)) d_MD_second_31 ⟨Nat.zero_le _, Nat.zero_le _⟩) hS (fun H locs hP hS => ?_)
        refine lv_iload_n hx hb d_MD_second_34 rfl (lv_at hl 1 rfl) ?_
        refine lv_icmp_ne (tgt := 45) hx hb d_MD_second_35 (by decide) (fun h_4 => ?_) (fun h_4 => ?_)
        ·
          have hG := hG.trans (if_neg h_4)
          refine lv_iinc (k := 2) (v := nI (i_4 + 1)) (lv' := [(2, .int (nI (i_4 + 1))), (3, .int (g_MD_times (x1 &&& 15) (g_MD_power (15 - i_4) (15 - (nI i_4))))), (0, .int x1)]) hx hb d_MD_second_45 hl rfl (fl_inc _) (by decide) rfl (fun ls hl => ?_)
          refine lv_goto (tgt := 4) hx hb d_MD_second_48 (by decide) ?_
          have hl := lv_sub (l' := [(0, .int x1), (2, .int (nI (i_4 + 1)))]) hl [2, 0] rfl
          exact ih_4 (i_4 + 1) ls _ _ (by omega) hl hP hS hG
        ·
          have hG := hG.trans (if_pos h_4)
          refine lv_bipush (v := 16) hx hb d_MD_second_38 (by decide) ?_
          refine lv_iload_n hx hb d_MD_second_40 rfl (lv_at hl 2 rfl) ?_
          refine lv_imul hx hb d_MD_second_41 ?_
          refine lv_iload_n hx hb d_MD_second_42 rfl (lv_at hl 0 rfl) ?_
          refine lv_iadd hx hb d_MD_second_43 ?_
          exact fl_iret hx hb hr hlocks hP hS hG.symm rfl d_MD_second_44
  rw [show x2 + 1 = nI (n + 1) from by rw [hx2]; exact (nI_succ n).symm] at hl
  have hl := lv_sub (l' := [(0, .int x1), (2, .int (nI (n + 1)))]) hl [1, 0] rfl
  exact lp_4 (15 - (n + 1)) (n + 1) ls _ _ (by omega) hl hP hS hG
theorem hd_MD_second : y_MD_second.cls ≠ "java/lang/invoke/MethodHandle" ∧ y_MD_second.cls ≠ "java/lang/invoke/VarHandle" ∧ (parseMethodDescriptor y_MD_second.desc).map (fun d => d.parameters.length) = some 2 := by decide +kernel
theorem kv_MD_second {R : Room} {s : State} {args : Array Value} {c0 : Cond} {own : String} {index : Nat} (hts : ∀ w ∈ c0 :: gw, w.before args s = true) (hl : (Cond.methodLink own index y_MD_second).before args s = true) (hR : 3 + 1 ≤ R.frames ∧ 8 + (4 + 11) + 69 ≤ R.locals) : CallB R s args own index y_MD_second b_MD_second 4 (some .int) w_MD_second ({ frames := 3, cells := 0, slots := 0, locals := 69 } : Room) 0 0 2 ∧ (Cond.static y_MD_second).before args s = true := ⟨callB_of 2 hts (gw_in tw_985) rfl rfl rfl (hts _ (List.mem_cons_of_mem _ tw_10)) hl hd_MD_second hR, hts _ (List.mem_cons_of_mem _ tw_984)⟩
def g_MD_decodeUp_L14 (x1 : Int64) : Nat → Nat → Int64
  | 0, i_14 => (-1)
  | k_14 + 1, i_14 => if (g_MD_upRest (x1 ^^^ (j_lshl 1 (nI i_14)))) = 0 then (j_lshr (x1 ^^^ (j_lshl 1 (nI i_14))) 7) else (g_MD_decodeUp_L14 x1 k_14 (i_14 + 1))
def g_MD_decodeUp (x1 : Int64) : Int64 :=
  if (g_MD_upRest x1) = 0 then (j_lshr x1 7) else (g_MD_decodeUp_L14 x1 63 0)
set_option maxHeartbeats 400000 in
set_option maxRecDepth 100000 in
theorem c_MD_decodeUp (l : Launch) {D : va_G} {ad : Nat → Nat} {cA : Nat → ClassId} (hi : fl_inj ad 41) (M : fl_M) (x1 : Int64) : Met l y_MD_decodeUp w_MD_decodeUp ({ frames := 1, cells := 0, slots := 0, locals := 24 } : Room) (va_Pc [.long x1] (fl_B D cls (yt cA) ([] : fl_L) ([] : fl_FN) ([] : fl_MN) ad (yc ad cA) 41 M)) (va_Ql (fun r M' => r = (g_MD_decodeUp x1) ∧ M' = M) (fl_E D cls ad (yc ad cA) 41) (fl_A ad 41)) 0 0 (fl_A ad 41) := by
  refine Met.ofW (cc := b_MD_decodeUp) (maxL := 5) (ret := (some .long)) (by decide) rfl ?_
  intro p e s m args below meth c s₁ B hml hv
  obtain ⟨rfl, hP, hK, hSt, hN⟩ := hv
  have hx := B.exec
  have hb := B.bytes
  have hr := B.returns
  have hts := atoms_spec (ws := w_MD_decodeUp) B.pre
  have hown : s.vm.findClass "FarLinkModel" = some m.cls := findClass_of_methodNamed B.named
  have hlocks := B.notSynchronized
  have hS : va_S (fl_A ad 41) s.heap s.heap [] := va_S.rf
  have hl := lv_entry ([.long x1]) (n := 5) (Nat.le_of_ble_eq_true rfl)
  rw [lg_entry_eq]
  generalize (lg_sl ([.long x1]) ++ List.replicate (5 - (lg_sl ([.long x1])).length) Slot.unset).toArray = ls at hl ⊢
  have hl : lv_has ls 5 [(0, .long x1)] := hl
  have hG := g_MD_decodeUp.eq_1 x1
  refine lv_lload_n hx hb d_MD_decodeUp_0 rfl (lv_at hl 0 rfl) ?_
  refine fl_calli (va_runS (As := [.long x1]) (rest := []) ⟨hx, hb, hml, hown, hts⟩ (c_MD_upRest l hi M x1) (kv_MD_upRest hts (hts _ (List.mem_cons_of_mem _ tw_958)) ⟨Nat.le_of_ble_eq_true rfl, Nat.le_of_ble_eq_true rfl⟩) (fl_preS hK hSt hN hS hP) rfl rfl hl.1 rfl (lv_room (Nat.le_of_ble_eq_true rfl)) d_MD_decodeUp_1 ⟨Nat.zero_le _, Nat.zero_le _⟩) hS (fun H locs hP hS => ?_)
  refine lv_if_ne (tgt := 12) hx hb d_MD_decodeUp_4 (by decide) (fun h_1 => ?_) (fun h_1 => ?_)
  ·
    have hG := hG.trans (if_neg h_1)
    refine lv_iconst (v := 0) hx hb d_MD_decodeUp_12 (by decide) ?_
    refine lv_istore_n (lv' := [(2, .int 0), (0, .long x1)]) hx hb d_MD_decodeUp_13 rfl hl (by decide) rfl (fun ls hl => ?_)
    have lp_14 : ∀ (k_14 : Nat) (i_14 : Nat) (ls : Array Slot) (H : Heap) (locs : List Loc), i_14 + k_14 = 63 → lv_has ls 5 [(0, .long x1), (2, .int (nI i_14))] → va_P D cls (fl_w ad (yc ad cA) 41 M) H → va_S (fl_A ad 41) s.heap H locs → g_MD_decodeUp x1 = g_MD_decodeUp_L14 x1 k_14 i_14 → W p l e (headSpec w_MD_decodeUp ({ frames := 1, cells := 0, slots := 0, locals := 24 } : Room)).room s m ([.long x1] : List Value).toArray below meth c H locs 0 0 (MQ below (va_Ql (fun r M' => r = (g_MD_decodeUp x1) ∧ M' = M) (fl_E D cls ad (yc ad cA) 41) (fl_A ad 41)) ([.long x1] : List Value).toArray s 0 0 (fl_A ad 41)) (F0 m 14 ls []) := by
      intro k_14
      induction k_14 with
      | zero =>
        intro i_14 ls H locs hbd hl hP hS hG
        have hG := hG.trans (g_MD_decodeUp_L14.eq_1 ..)
        refine lv_iload_n hx hb d_MD_decodeUp_14 rfl (lv_at hl 1 rfl) ?_
        refine lv_bipush (v := 63) hx hb d_MD_decodeUp_15 (by decide) ?_
        refine lv_icmp_ge (tgt := 44) hx hb d_MD_decodeUp_17 (by decide) (fun _ => ?_) (fun h_2 => absurd (fl_le (b := 63) rfl (by omega) (by omega)) h_2)
        refine lv_ldc2 (v := -1) hx hb hown (hts _ (List.mem_cons_of_mem _ tw_973)) d_MD_decodeUp_44 ?_
        exact fl_lret hx hb hr hlocks hP hS hG.symm rfl d_MD_decodeUp_47
      | succ k_14 ih_14 =>
        intro i_14 ls H locs hbd hl hP hS hG
        have hG := hG.trans (g_MD_decodeUp_L14.eq_2 ..)
        refine lv_iload_n hx hb d_MD_decodeUp_14 rfl (lv_at hl 1 rfl) ?_
        refine lv_bipush (v := 63) hx hb d_MD_decodeUp_15 (by decide) ?_
        refine lv_icmp_ge (tgt := 44) hx hb d_MD_decodeUp_17 (by decide) (fun h_3 => absurd h_3 (fl_nle (b := 63) rfl (by omega) (by omega))) (fun _ => ?_)
        refine lv_lload_n hx hb d_MD_decodeUp_20 rfl (lv_at hl 0 rfl) ?_
        refine lv_lconst (v := 1) hx hb d_MD_decodeUp_21 (by decide) ?_
        refine lv_iload_n hx hb d_MD_decodeUp_22 rfl (lv_at hl 1 rfl) ?_
        refine lv_lshl (v := j_lshl 1 (nI i_14)) hx hb d_MD_decodeUp_23 rfl ?_
        refine lv_lxor hx hb d_MD_decodeUp_24 ?_
        refine lv_lstore_n (lv' := [(3, .long (x1 ^^^ (j_lshl 1 (nI i_14)))), (0, .long x1), (2, .int (nI i_14))]) hx hb d_MD_decodeUp_25 rfl hl (by decide) rfl (fun ls hl => ?_)
        refine lv_lload_n hx hb d_MD_decodeUp_26 rfl (lv_at hl 0 rfl) ?_
        refine fl_calli (va_runS (As := [.long (x1 ^^^ (j_lshl 1 (nI i_14)))]) (rest := []) ⟨hx, hb, hml, hown, hts⟩ (c_MD_upRest l hi M (x1 ^^^ (j_lshl 1 (nI i_14)))) (kv_MD_upRest hts (hts _ (List.mem_cons_of_mem _ tw_958)) ⟨Nat.le_of_ble_eq_true rfl, Nat.le_of_ble_eq_true rfl⟩) (fl_preS hK hSt hN hS hP) rfl rfl hl.1 rfl (lv_room (Nat.le_of_ble_eq_true rfl)) d_MD_decodeUp_27 ⟨Nat.zero_le _, Nat.zero_le _⟩) hS (fun H locs hP hS => ?_)
        refine lv_if_ne (tgt := 38) hx hb d_MD_decodeUp_30 (by decide) (fun h_4 => ?_) (fun h_4 => ?_)
        ·
          have hG := hG.trans (if_neg h_4)
          refine lv_iinc (k := 2) (v := nI (i_14 + 1)) (lv' := [(2, .int (nI (i_14 + 1))), (3, .long (x1 ^^^ (j_lshl 1 (nI i_14)))), (0, .long x1)]) hx hb d_MD_decodeUp_38 hl rfl (fl_inc _) (by decide) rfl (fun ls hl => ?_)
          refine lv_goto (tgt := 14) hx hb d_MD_decodeUp_41 (by decide) ?_
          have hl := lv_sub (l' := [(0, .long x1), (2, .int (nI (i_14 + 1)))]) hl [2, 0] rfl
          exact ih_14 (i_14 + 1) ls _ _ (by omega) hl hP hS hG
        ·
          have hG := hG.trans (if_pos h_4)
          refine lv_lload_n hx hb d_MD_decodeUp_33 rfl (lv_at hl 0 rfl) ?_
          refine lv_bipush (v := 7) hx hb d_MD_decodeUp_34 (by decide) ?_
          refine lv_lshr (v := j_lshr (x1 ^^^ (j_lshl 1 (nI i_14))) 7) hx hb d_MD_decodeUp_36 rfl ?_
          exact fl_lret hx hb hr hlocks hP hS hG.symm rfl d_MD_decodeUp_37
    have hl := lv_sub (l' := [(0, .long x1), (2, .int (nI 0))]) hl [1, 0] rfl
    exact lp_14 63 0 ls _ _ (by omega) hl hP hS hG
  ·
    have hG := hG.trans (if_pos h_1)
    refine lv_lload_n hx hb d_MD_decodeUp_7 rfl (lv_at hl 0 rfl) ?_
    refine lv_bipush (v := 7) hx hb d_MD_decodeUp_8 (by decide) ?_
    refine lv_lshr (v := j_lshr x1 7) hx hb d_MD_decodeUp_10 rfl ?_
    exact fl_lret hx hb hr hlocks hP hS hG.symm rfl d_MD_decodeUp_11
theorem hd_MD_decodeUp : y_MD_decodeUp.cls ≠ "java/lang/invoke/MethodHandle" ∧ y_MD_decodeUp.cls ≠ "java/lang/invoke/VarHandle" ∧ (parseMethodDescriptor y_MD_decodeUp.desc).map (fun d => d.parameters.length) = some 1 := by decide +kernel
theorem kv_MD_decodeUp {R : Room} {s : State} {args : Array Value} {c0 : Cond} {own : String} {index : Nat} (hts : ∀ w ∈ c0 :: gw, w.before args s = true) (hl : (Cond.methodLink own index y_MD_decodeUp).before args s = true) (hR : 1 + 1 ≤ R.frames ∧ 8 + (5 + 11) + 24 ≤ R.locals) : CallB R s args own index y_MD_decodeUp b_MD_decodeUp 5 (some .long) w_MD_decodeUp ({ frames := 1, cells := 0, slots := 0, locals := 24 } : Room) 0 0 1 ∧ (Cond.static y_MD_decodeUp).before args s = true := ⟨callB_of 1 hts (gw_in tw_972) rfl rfl rfl (hts _ (List.mem_cons_of_mem _ tw_10)) hl hd_MD_decodeUp hR, hts _ (List.mem_cons_of_mem _ tw_971)⟩
def g_MD_decodeDown_L25 (x1 : Int64) (i_16 : Nat) : Nat → Nat → (Option Int64)
  | 0, i_25 => none
  | k_25 + 1, i_25 => if ((g_MD_downRest x1) ^^^ (g_MD_effect i_16 (nI i_25) (nI i_16))) = 0 then (some (j_lshr (x1 ^^^ (j_lshl ((nI i_25).toInt64) (4 * (nI i_16)))) 16)) else (if (g_MD_second i_16 ((g_MD_downRest x1) ^^^ (g_MD_effect i_16 (nI i_25) (nI i_16))) (nI i_16)) < 0 then (g_MD_decodeDown_L25 x1 i_16 k_25 (i_25 + 1)) else (some (j_lshr ((x1 ^^^ (j_lshl ((nI i_25).toInt64) (4 * (nI i_16)))) ^^^ (j_lshl (((g_MD_second i_16 ((g_MD_downRest x1) ^^^ (g_MD_effect i_16 (nI i_25) (nI i_16))) (nI i_16)) &&& 15).toInt64) (4 * (j_ishr (g_MD_second i_16 ((g_MD_downRest x1) ^^^ (g_MD_effect i_16 (nI i_25) (nI i_16))) (nI i_16)) 4)))) 16)))
def g_MD_decodeDown_L16 (x1 : Int64) : Nat → Nat → Int64
  | 0, i_16 => (-1)
  | k_16 + 1, i_16 => Option.getD (g_MD_decodeDown_L25 x1 i_16 15 1) (g_MD_decodeDown_L16 x1 k_16 (i_16 + 1))
def g_MD_decodeDown (x1 : Int64) : Int64 :=
  if (g_MD_downRest x1) = 0 then (j_lshr x1 16) else (g_MD_decodeDown_L16 x1 15 0)
set_option maxHeartbeats 400000 in
set_option maxRecDepth 100000 in
theorem c_MD_decodeDown (l : Launch) {D : va_G} {ad : Nat → Nat} {cA : Nat → ClassId} (hi : fl_inj ad 41) (M : fl_M) (x1 : Int64) : Met l y_MD_decodeDown w_MD_decodeDown ({ frames := 4, cells := 0, slots := 0, locals := 92 } : Room) (va_Pc [.long x1] (fl_B D cls (yt cA) ([] : fl_L) ([] : fl_FN) ([] : fl_MN) ad (yc ad cA) 41 M)) (va_Ql (fun r M' => r = (g_MD_decodeDown x1) ∧ M' = M) (fl_E D cls ad (yc ad cA) 41) (fl_A ad 41)) 0 0 (fl_A ad 41) := by
  refine Met.ofW (cc := b_MD_decodeDown) (maxL := 9) (ret := (some .long)) (by decide) rfl ?_
  intro p e s m args below meth c s₁ B hml hv
  obtain ⟨rfl, hP, hK, hSt, hN⟩ := hv
  have hx := B.exec
  have hb := B.bytes
  have hr := B.returns
  have hts := atoms_spec (ws := w_MD_decodeDown) B.pre
  have hown : s.vm.findClass "FarLinkModel" = some m.cls := findClass_of_methodNamed B.named
  have hlocks := B.notSynchronized
  have hS : va_S (fl_A ad 41) s.heap s.heap [] := va_S.rf
  have hl := lv_entry ([.long x1]) (n := 9) (Nat.le_of_ble_eq_true rfl)
  rw [lg_entry_eq]
  generalize (lg_sl ([.long x1]) ++ List.replicate (9 - (lg_sl ([.long x1])).length) Slot.unset).toArray = ls at hl ⊢
  have hl : lv_has ls 9 [(0, .long x1)] := hl
  have hG := g_MD_decodeDown.eq_1 x1
  refine lv_lload_n hx hb d_MD_decodeDown_0 rfl (lv_at hl 0 rfl) ?_
  refine fl_calli (va_runS (As := [.long x1]) (rest := []) ⟨hx, hb, hml, hown, hts⟩ (c_MD_downRest l hi M x1) (kv_MD_downRest hts (hts _ (List.mem_cons_of_mem _ tw_977)) ⟨Nat.le_of_ble_eq_true rfl, Nat.le_of_ble_eq_true rfl⟩) (fl_preS hK hSt hN hS hP) rfl rfl hl.1 rfl (lv_room (Nat.le_of_ble_eq_true rfl)) d_MD_decodeDown_1 ⟨Nat.zero_le _, Nat.zero_le _⟩) hS (fun H locs hP hS => ?_)
  refine lv_istore_n (lv' := [(2, .int (g_MD_downRest x1)), (0, .long x1)]) hx hb d_MD_decodeDown_4 rfl hl (by decide) rfl (fun ls hl => ?_)
  refine lv_iload_n hx hb d_MD_decodeDown_5 rfl (lv_at hl 0 rfl) ?_
  refine lv_if_ne (tgt := 14) hx hb d_MD_decodeDown_6 (by decide) (fun h_1 => ?_) (fun h_1 => ?_)
  ·
    have hG := hG.trans (if_neg h_1)
    refine lv_iconst (v := 0) hx hb d_MD_decodeDown_14 (by decide) ?_
    refine lv_istore_n (lv' := [(3, .int 0), (2, .int (g_MD_downRest x1)), (0, .long x1)]) hx hb d_MD_decodeDown_15 rfl hl (by decide) rfl (fun ls hl => ?_)
    have lp_16 : ∀ (k_16 : Nat) (i_16 : Nat) (ls : Array Slot) (H : Heap) (locs : List Loc), i_16 + k_16 = 15 → lv_has ls 9 [(0, .long x1), (2, .int (g_MD_downRest x1)), (3, .int (nI i_16))] → va_P D cls (fl_w ad (yc ad cA) 41 M) H → va_S (fl_A ad 41) s.heap H locs → g_MD_decodeDown x1 = g_MD_decodeDown_L16 x1 k_16 i_16 → W p l e (headSpec w_MD_decodeDown ({ frames := 4, cells := 0, slots := 0, locals := 92 } : Room)).room s m ([.long x1] : List Value).toArray below meth c H locs 0 0 (MQ below (va_Ql (fun r M' => r = (g_MD_decodeDown x1) ∧ M' = M) (fl_E D cls ad (yc ad cA) 41) (fl_A ad 41)) ([.long x1] : List Value).toArray s 0 0 (fl_A ad 41)) (F0 m 16 ls []) := by
      intro k_16
      induction k_16 with
      | zero =>
        intro i_16 ls H locs hbd hl hP hS hG
        have hG := hG.trans (g_MD_decodeDown_L16.eq_1 ..)
        refine lv_iload_n hx hb d_MD_decodeDown_16 rfl (lv_at hl 2 rfl) ?_
        refine lv_bipush (v := 15) hx hb d_MD_decodeDown_17 (by decide) ?_
        refine lv_icmp_ge (tgt := 109) hx hb d_MD_decodeDown_19 (by decide) (fun _ => ?_) (fun h_2 => absurd (fl_le (b := 15) rfl (by omega) (by omega)) h_2)
        refine lv_ldc2 (v := -1) hx hb hown (hts _ (List.mem_cons_of_mem _ tw_973)) d_MD_decodeDown_109 ?_
        exact fl_lret hx hb hr hlocks hP hS hG.symm rfl d_MD_decodeDown_112
      | succ k_16 ih_16 =>
        intro i_16 ls H locs hbd hl hP hS hG
        have hG := hG.trans (g_MD_decodeDown_L16.eq_2 ..)
        refine lv_iload_n hx hb d_MD_decodeDown_16 rfl (lv_at hl 2 rfl) ?_
        refine lv_bipush (v := 15) hx hb d_MD_decodeDown_17 (by decide) ?_
        refine lv_icmp_ge (tgt := 109) hx hb d_MD_decodeDown_19 (by decide) (fun h_3 => absurd h_3 (fl_nle (b := 15) rfl (by omega) (by omega))) (fun _ => ?_)
        refine lv_iconst (v := 1) hx hb d_MD_decodeDown_22 (by decide) ?_
        refine lv_istore (lv' := [(4, .int 1), (0, .long x1), (2, .int (g_MD_downRest x1)), (3, .int (nI i_16))]) hx hb d_MD_decodeDown_23 hl (by decide) rfl (fun ls hl => ?_)
        have lp_25 : ∀ (k_25 : Nat) (i_25 : Nat) (ls : Array Slot) (H : Heap) (locs : List Loc), i_25 + k_25 = 16 → lv_has ls 9 [(0, .long x1), (2, .int (g_MD_downRest x1)), (3, .int (nI i_16)), (4, .int (nI i_25))] → va_P D cls (fl_w ad (yc ad cA) 41 M) H → va_S (fl_A ad 41) s.heap H locs → g_MD_decodeDown x1 = Option.getD (g_MD_decodeDown_L25 x1 i_16 k_25 i_25) (g_MD_decodeDown_L16 x1 k_16 (i_16 + 1)) → W p l e (headSpec w_MD_decodeDown ({ frames := 4, cells := 0, slots := 0, locals := 92 } : Room)).room s m ([.long x1] : List Value).toArray below meth c H locs 0 0 (MQ below (va_Ql (fun r M' => r = (g_MD_decodeDown x1) ∧ M' = M) (fl_E D cls ad (yc ad cA) 41) (fl_A ad 41)) ([.long x1] : List Value).toArray s 0 0 (fl_A ad 41)) (F0 m 25 ls []) := by
          intro k_25
          induction k_25 with
          | zero =>
            intro i_25 ls H locs hbd hl hP hS hG
            have hG := hG.trans (congrArg (fun z => Option.getD z (g_MD_decodeDown_L16 x1 k_16 (i_16 + 1))) (g_MD_decodeDown_L25.eq_1 ..))
            refine lv_iload hx hb d_MD_decodeDown_25 (lv_at hl 3 rfl) ?_
            refine lv_bipush (v := 16) hx hb d_MD_decodeDown_27 (by decide) ?_
            refine lv_icmp_ge (tgt := 103) hx hb d_MD_decodeDown_29 (by decide) (fun _ => ?_) (fun h_4 => absurd (fl_le (b := 16) rfl (by omega) (by omega)) h_4)
            refine lv_iinc (k := 2) (v := nI (i_16 + 1)) (lv' := [(3, .int (nI (i_16 + 1))), (0, .long x1), (2, .int (g_MD_downRest x1)), (4, .int (nI i_25))]) hx hb d_MD_decodeDown_103 hl rfl (fl_inc _) (by decide) rfl (fun ls hl => ?_)
            refine lv_goto (tgt := 16) hx hb d_MD_decodeDown_106 (by decide) ?_
            have hl := lv_sub (l' := [(0, .long x1), (2, .int (g_MD_downRest x1)), (3, .int (nI (i_16 + 1)))]) hl [1, 2, 0] rfl
            exact ih_16 (i_16 + 1) ls _ _ (by omega) hl hP hS hG
          | succ k_25 ih_25 =>
            intro i_25 ls H locs hbd hl hP hS hG
            have hG := hG.trans (congrArg (fun z => Option.getD z (g_MD_decodeDown_L16 x1 k_16 (i_16 + 1))) (g_MD_decodeDown_L25.eq_2 ..))
            refine lv_iload hx hb d_MD_decodeDown_25 (lv_at hl 3 rfl) ?_
            refine lv_bipush (v := 16) hx hb d_MD_decodeDown_27 (by decide) ?_
            refine lv_icmp_ge (tgt := 103) hx hb d_MD_decodeDown_29 (by decide) (fun h_5 => absurd h_5 (fl_nle (b := 16) rfl (by omega) (by omega))) (fun _ => ?_)
            refine lv_iload_n hx hb d_MD_decodeDown_32 rfl (lv_at hl 1 rfl) ?_
            refine lv_iload hx hb d_MD_decodeDown_33 (lv_at hl 3 rfl) ?_
            refine lv_iload_n hx hb d_MD_decodeDown_35 rfl (lv_at hl 2 rfl) ?_
            refine fl_calli (va_runS (As := [.int (nI i_25), .int (nI i_16)]) (rest := [.int (g_MD_downRest x1)]) ⟨hx, hb, hml, hown, hts⟩ (c_MD_effect l hi i_16 M (nI i_25) (nI i_16) (rfl) (by omega)) (kv_MD_effect hts (hts _ (List.mem_cons_of_mem _ tw_980)) ⟨Nat.le_of_ble_eq_true rfl, Nat.le_of_ble_eq_true rfl⟩) (fl_preS hK hSt hN hS hP) rfl rfl hl.1 rfl (lv_room (Nat.le_of_ble_eq_true rfl)) d_MD_decodeDown_36 ⟨Nat.zero_le _, Nat.zero_le _⟩) hS (fun H locs hP hS => ?_)
            refine lv_ixor hx hb d_MD_decodeDown_39 ?_
            refine lv_istore (lv' := [(5, .int ((g_MD_downRest x1) ^^^ (g_MD_effect i_16 (nI i_25) (nI i_16)))), (0, .long x1), (2, .int (g_MD_downRest x1)), (3, .int (nI i_16)), (4, .int (nI i_25))]) hx hb d_MD_decodeDown_40 hl (by decide) rfl (fun ls hl => ?_)
            refine lv_lload_n hx hb d_MD_decodeDown_42 rfl (lv_at hl 1 rfl) ?_
            refine lv_iload hx hb d_MD_decodeDown_43 (lv_at hl 4 rfl) ?_
            refine lv_i2l (v := (nI i_25).toInt64) hx hb d_MD_decodeDown_45 rfl ?_
            refine lv_iconst (v := 4) hx hb d_MD_decodeDown_46 (by decide) ?_
            refine lv_iload_n hx hb d_MD_decodeDown_47 rfl (lv_at hl 3 rfl) ?_
            refine lv_imul hx hb d_MD_decodeDown_48 ?_
            refine lv_lshl (v := j_lshl ((nI i_25).toInt64) (4 * (nI i_16))) hx hb d_MD_decodeDown_49 rfl ?_
            refine lv_lxor hx hb d_MD_decodeDown_50 ?_
            refine lv_lstore (lv' := [(6, .long (x1 ^^^ (j_lshl ((nI i_25).toInt64) (4 * (nI i_16))))), (5, .int ((g_MD_downRest x1) ^^^ (g_MD_effect i_16 (nI i_25) (nI i_16)))), (0, .long x1), (2, .int (g_MD_downRest x1)), (3, .int (nI i_16)), (4, .int (nI i_25))]) hx hb d_MD_decodeDown_51 hl (by decide) rfl (fun ls hl => ?_)
            refine lv_iload hx hb d_MD_decodeDown_53 (lv_at hl 1 rfl) ?_
            refine lv_if_ne (tgt := 64) hx hb d_MD_decodeDown_55 (by decide) (fun h_6 => ?_) (fun h_6 => ?_)
            ·
              have hG := hG.trans (congrArg (fun z => Option.getD z (g_MD_decodeDown_L16 x1 k_16 (i_16 + 1))) (if_neg h_6))
              refine lv_iload hx hb d_MD_decodeDown_64 (lv_at hl 1 rfl) ?_
              refine lv_iload_n hx hb d_MD_decodeDown_66 rfl (lv_at hl 4 rfl) ?_
              refine fl_calli (va_runS (As := [.int ((g_MD_downRest x1) ^^^ (g_MD_effect i_16 (nI i_25) (nI i_16))), .int (nI i_16)]) (rest := []) ⟨hx, hb, hml, hown, hts⟩ (c_MD_second l hi i_16 M ((g_MD_downRest x1) ^^^ (g_MD_effect i_16 (nI i_25) (nI i_16))) (nI i_16) (rfl) (by omega)) (kv_MD_second hts (hts _ (List.mem_cons_of_mem _ tw_983)) ⟨Nat.le_of_ble_eq_true rfl, Nat.le_of_ble_eq_true rfl⟩) (fl_preS hK hSt hN hS hP) rfl rfl hl.1 rfl (lv_room (Nat.le_of_ble_eq_true rfl)) d_MD_decodeDown_67 ⟨Nat.zero_le _, Nat.zero_le _⟩) hS (fun H locs hP hS => ?_)
              refine lv_istore (lv' := [(8, .int (g_MD_second i_16 ((g_MD_downRest x1) ^^^ (g_MD_effect i_16 (nI i_25) (nI i_16))) (nI i_16))), (6, .long (x1 ^^^ (j_lshl ((nI i_25).toInt64) (4 * (nI i_16))))), (5, .int ((g_MD_downRest x1) ^^^ (g_MD_effect i_16 (nI i_25) (nI i_16)))), (0, .long x1), (2, .int (g_MD_downRest x1)), (3, .int (nI i_16)), (4, .int (nI i_25))]) hx hb d_MD_decodeDown_70 hl (by decide) rfl (fun ls hl => ?_)
              refine lv_iload hx hb d_MD_decodeDown_72 (lv_at hl 0 rfl) ?_
              refine lv_if_lt (tgt := 97) hx hb d_MD_decodeDown_74 (by decide) (fun h_7 => ?_) (fun h_7 => ?_)
              ·
                have hG := hG.trans (congrArg (fun z => Option.getD z (g_MD_decodeDown_L16 x1 k_16 (i_16 + 1))) (if_pos h_7))
                refine lv_iinc (k := 6) (v := nI (i_25 + 1)) (lv' := [(4, .int (nI (i_25 + 1))), (8, .int (g_MD_second i_16 ((g_MD_downRest x1) ^^^ (g_MD_effect i_16 (nI i_25) (nI i_16))) (nI i_16))), (6, .long (x1 ^^^ (j_lshl ((nI i_25).toInt64) (4 * (nI i_16))))), (5, .int ((g_MD_downRest x1) ^^^ (g_MD_effect i_16 (nI i_25) (nI i_16)))), (0, .long x1), (2, .int (g_MD_downRest x1)), (3, .int (nI i_16))]) hx hb d_MD_decodeDown_97 hl rfl (fl_inc _) (by decide) rfl (fun ls hl => ?_)
                refine lv_goto (tgt := 25) hx hb d_MD_decodeDown_100 (by decide) ?_
                have hl := lv_sub (l' := [(0, .long x1), (2, .int (g_MD_downRest x1)), (3, .int (nI i_16)), (4, .int (nI (i_25 + 1)))]) hl [4, 5, 6, 0] rfl
                exact ih_25 (i_25 + 1) ls _ _ (by omega) hl hP hS hG
              ·
                have hG := hG.trans (congrArg (fun z => Option.getD z (g_MD_decodeDown_L16 x1 k_16 (i_16 + 1))) (if_neg h_7))
                refine lv_lload hx hb d_MD_decodeDown_77 (lv_at hl 1 rfl) ?_
                refine lv_iload hx hb d_MD_decodeDown_79 (lv_at hl 0 rfl) ?_
                refine lv_bipush (v := 15) hx hb d_MD_decodeDown_81 (by decide) ?_
                refine lv_iand hx hb d_MD_decodeDown_83 ?_
                refine lv_i2l (v := ((g_MD_second i_16 ((g_MD_downRest x1) ^^^ (g_MD_effect i_16 (nI i_25) (nI i_16))) (nI i_16)) &&& 15).toInt64) hx hb d_MD_decodeDown_84 rfl ?_
                refine lv_iconst (v := 4) hx hb d_MD_decodeDown_85 (by decide) ?_
                refine lv_iload hx hb d_MD_decodeDown_86 (lv_at hl 0 rfl) ?_
                refine lv_iconst (v := 4) hx hb d_MD_decodeDown_88 (by decide) ?_
                refine lj_ishr hx hb d_MD_decodeDown_89 ?_
                refine lv_imul hx hb d_MD_decodeDown_90 ?_
                refine lv_lshl (v := j_lshl (((g_MD_second i_16 ((g_MD_downRest x1) ^^^ (g_MD_effect i_16 (nI i_25) (nI i_16))) (nI i_16)) &&& 15).toInt64) (4 * (j_ishr (g_MD_second i_16 ((g_MD_downRest x1) ^^^ (g_MD_effect i_16 (nI i_25) (nI i_16))) (nI i_16)) 4))) hx hb d_MD_decodeDown_91 rfl ?_
                refine lv_lxor hx hb d_MD_decodeDown_92 ?_
                refine lv_bipush (v := 16) hx hb d_MD_decodeDown_93 (by decide) ?_
                refine lv_lshr (v := j_lshr ((x1 ^^^ (j_lshl ((nI i_25).toInt64) (4 * (nI i_16)))) ^^^ (j_lshl (((g_MD_second i_16 ((g_MD_downRest x1) ^^^ (g_MD_effect i_16 (nI i_25) (nI i_16))) (nI i_16)) &&& 15).toInt64) (4 * (j_ishr (g_MD_second i_16 ((g_MD_downRest x1) ^^^ (g_MD_effect i_16 (nI i_25) (nI i_16))) (nI i_16)) 4)))) 16) hx hb d_MD_decodeDown_95 rfl ?_
                exact fl_lret hx hb hr hlocks hP hS hG.symm rfl d_MD_decodeDown_96
            ·
              have hG := hG.trans (congrArg (fun z => Option.getD z (g_MD_decodeDown_L16 x1 k_16 (i_16 + 1))) (if_pos h_6))
              refine lv_lload hx hb d_MD_decodeDown_58 (lv_at hl 0 rfl) ?_
              refine lv_bipush (v := 16) hx hb d_MD_decodeDown_60 (by decide) ?_
              refine lv_lshr (v := j_lshr (x1 ^^^ (j_lshl ((nI i_25).toInt64) (4 * (nI i_16)))) 16) hx hb d_MD_decodeDown_62 rfl ?_
              exact fl_lret hx hb hr hlocks hP hS hG.symm rfl d_MD_decodeDown_63
        have hl := lv_sub (l' := [(0, .long x1), (2, .int (g_MD_downRest x1)), (3, .int (nI i_16)), (4, .int (nI 1))]) hl [1, 2, 3, 0] rfl
        exact lp_25 15 1 ls _ _ (by omega) hl hP hS hG
    have hl := lv_sub (l' := [(0, .long x1), (2, .int (g_MD_downRest x1)), (3, .int (nI 0))]) hl [2, 1, 0] rfl
    exact lp_16 15 0 ls _ _ (by omega) hl hP hS hG
  ·
    have hG := hG.trans (if_pos h_1)
    refine lv_lload_n hx hb d_MD_decodeDown_9 rfl (lv_at hl 1 rfl) ?_
    refine lv_bipush (v := 16) hx hb d_MD_decodeDown_10 (by decide) ?_
    refine lv_lshr (v := j_lshr x1 16) hx hb d_MD_decodeDown_12 rfl ?_
    exact fl_lret hx hb hr hlocks hP hS hG.symm rfl d_MD_decodeDown_13
theorem hd_MD_decodeDown : y_MD_decodeDown.cls ≠ "java/lang/invoke/MethodHandle" ∧ y_MD_decodeDown.cls ≠ "java/lang/invoke/VarHandle" ∧ (parseMethodDescriptor y_MD_decodeDown.desc).map (fun d => d.parameters.length) = some 1 := by decide +kernel
theorem kv_MD_decodeDown {R : Room} {s : State} {args : Array Value} {c0 : Cond} {own : String} {index : Nat} (hts : ∀ w ∈ c0 :: gw, w.before args s = true) (hl : (Cond.methodLink own index y_MD_decodeDown).before args s = true) (hR : 4 + 1 ≤ R.frames ∧ 8 + (9 + 11) + 92 ≤ R.locals) : CallB R s args own index y_MD_decodeDown b_MD_decodeDown 9 (some .long) w_MD_decodeDown ({ frames := 4, cells := 0, slots := 0, locals := 92 } : Room) 0 0 1 ∧ (Cond.static y_MD_decodeDown).before args s = true := ⟨callB_of 1 hts (gw_in tw_976) rfl rfl rfl (hts _ (List.mem_cons_of_mem _ tw_10)) hl hd_MD_decodeDown hR, hts _ (List.mem_cons_of_mem _ tw_975)⟩
def g_MD_product_L20 (gg : Int64) (i_4 : Nat) : Nat → Nat → Int64 → Int64
  | 0, i_20, hh => (hh)
  | k_20 + 1, i_20, hh => if (nI i_20) = 0 then (g_MD_product_L20 gg i_4 k_20 (i_20 + 1) (hh ||| (j_lshl (((g_MD_times (((j_lshr gg (4 * (nI i_20))) &&& 15).toInt32) (g_MD_power i_4 (nI i_4))) ^^^ 0).toInt64) (4 * (nI i_20))))) else (g_MD_product_L20 gg i_4 k_20 (i_20 + 1) (hh ||| (j_lshl (((g_MD_times (((j_lshr gg (4 * (nI i_20))) &&& 15).toInt32) (g_MD_power i_4 (nI i_4))) ^^^ (((j_lshr gg (4 * ((nI i_20) - 1))) &&& 15).toInt32)).toInt64) (4 * (nI i_20)))))
def g_MD_product_L4  : Nat → Nat → Int64 → Int64
  | 0, i_4, gg => (gg)
  | k_4 + 1, i_4, gg => g_MD_product_L4  k_4 (i_4 + 1) (g_MD_product_L20 gg i_4 5 0 0)
def g_MD_product  : Int64 :=
  (g_MD_product_L4  4 1 1)
set_option maxHeartbeats 400000 in
set_option maxRecDepth 100000 in
theorem c_MD_product (l : Launch) {D : va_G} {ad : Nat → Nat} {cA : Nat → ClassId} (hi : fl_inj ad 41) (M : fl_M) : Met l y_MD_product w_MD_product ({ frames := 2, cells := 0, slots := 0, locals := 45 } : Room) (va_Pc [] (fl_B D cls (yt cA) ([] : fl_L) ([] : fl_FN) ([] : fl_MN) ad (yc ad cA) 41 M)) (va_Ql (fun r M' => r = (g_MD_product ) ∧ M' = M) (fl_E D cls ad (yc ad cA) 41) (fl_A ad 41)) 0 0 (fl_A ad 41) := by
  refine Met.ofW (cc := b_MD_product) (maxL := 11) (ret := (some .long)) (by decide) rfl ?_
  intro p e s m args below meth c s₁ B hml hv
  obtain ⟨rfl, hP, hK, hSt, hN⟩ := hv
  have hx := B.exec
  have hb := B.bytes
  have hr := B.returns
  have hts := atoms_spec (ws := w_MD_product) B.pre
  have hown : s.vm.findClass "FarLinkModel" = some m.cls := findClass_of_methodNamed B.named
  have hlocks := B.notSynchronized
  have hS : va_S (fl_A ad 41) s.heap s.heap [] := va_S.rf
  have hl := lv_entry ([]) (n := 11) (Nat.le_of_ble_eq_true rfl)
  rw [lg_entry_eq]
  generalize (lg_sl ([]) ++ List.replicate (11 - (lg_sl ([])).length) Slot.unset).toArray = ls at hl ⊢
  have hl : lv_has ls 11 [] := hl
  have hG := g_MD_product.eq_1 
  refine lv_lconst (v := 1) hx hb d_MD_product_0 (by decide) ?_
  refine lv_lstore_n (lv' := [(0, .long 1)]) hx hb d_MD_product_1 rfl hl (by decide) rfl (fun ls hl => ?_)
  refine lv_iconst (v := 1) hx hb d_MD_product_2 (by decide) ?_
  refine lv_istore_n (lv' := [(2, .int 1), (0, .long 1)]) hx hb d_MD_product_3 rfl hl (by decide) rfl (fun ls hl => ?_)
  have lp_4 : ∀ (k_4 : Nat) (i_4 : Nat) (gg : Int64) (ls : Array Slot) (H : Heap) (locs : List Loc), i_4 + k_4 = 5 → lv_has ls 11 [(0, .long gg), (2, .int (nI i_4))] → va_P D cls (fl_w ad (yc ad cA) 41 M) H → va_S (fl_A ad 41) s.heap H locs → (∀ (v : Int64) (ls : Array Slot) (H : Heap) (locs : List Loc), v = g_MD_product_L4  k_4 i_4 gg → lv_has ls 11 [(0, .long v)] → va_P D cls (fl_w ad (yc ad cA) 41 M) H → va_S (fl_A ad 41) s.heap H locs → W p l e (headSpec w_MD_product ({ frames := 2, cells := 0, slots := 0, locals := 45 } : Room)).room s m ([] : List Value).toArray below meth c H locs 0 0 (MQ below (va_Ql (fun r M' => r = (g_MD_product ) ∧ M' = M) (fl_E D cls ad (yc ad cA) 41) (fl_A ad 41)) ([] : List Value).toArray s 0 0 (fl_A ad 41)) (F0 m 102 ls [])) → W p l e (headSpec w_MD_product ({ frames := 2, cells := 0, slots := 0, locals := 45 } : Room)).room s m ([] : List Value).toArray below meth c H locs 0 0 (MQ below (va_Ql (fun r M' => r = (g_MD_product ) ∧ M' = M) (fl_E D cls ad (yc ad cA) 41) (fl_A ad 41)) ([] : List Value).toArray s 0 0 (fl_A ad 41)) (F0 m 4 ls []) := by
    intro k_4
    induction k_4 with
    | zero =>
      intro i_4 gg ls H locs hbd hl hP hS kk
      have hG : g_MD_product_L4  0 i_4 gg = _ := g_MD_product_L4.eq_1 ..
      refine lv_iload_n hx hb d_MD_product_4 rfl (lv_at hl 1 rfl) ?_
      refine lv_iconst (v := 4) hx hb d_MD_product_5 (by decide) ?_
      refine lv_icmp_gt (tgt := 102) hx hb d_MD_product_6 (by decide) (fun _ => ?_) (fun h_1 => absurd (fl_ltn (b := 4) rfl (by omega) (by omega)) h_1)
      have hl := lv_sub (l' := [(0, .long gg)]) hl [0] rfl
      exact kk (gg) ls _ _ hG.symm hl hP hS
    | succ k_4 ih_4 =>
      intro i_4 gg ls H locs hbd hl hP hS kk
      have hG : g_MD_product_L4  (k_4 + 1) i_4 gg = _ := g_MD_product_L4.eq_2 ..
      refine lv_iload_n hx hb d_MD_product_4 rfl (lv_at hl 1 rfl) ?_
      refine lv_iconst (v := 4) hx hb d_MD_product_5 (by decide) ?_
      refine lv_icmp_gt (tgt := 102) hx hb d_MD_product_6 (by decide) (fun h_2 => absurd h_2 (fl_nltn (b := 4) rfl (by omega) (by omega))) (fun _ => ?_)
      refine lv_iload_n hx hb d_MD_product_9 rfl (lv_at hl 1 rfl) ?_
      refine fl_calli (va_runS (As := [.int (nI i_4)]) (rest := []) ⟨hx, hb, hml, hown, hts⟩ (c_MD_power l hi i_4 M (nI i_4) (rfl) (by omega)) (kv_MD_power hts (hts _ (List.mem_cons_of_mem _ tw_774)) ⟨Nat.le_of_ble_eq_true rfl, Nat.le_of_ble_eq_true rfl⟩) (fl_preS hK hSt hN hS hP) rfl rfl hl.1 rfl (lv_room (Nat.le_of_ble_eq_true rfl)) d_MD_product_10 ⟨Nat.zero_le _, Nat.zero_le _⟩) hS (fun H locs hP hS => ?_)
      refine lv_istore_n (lv' := [(3, .int (g_MD_power i_4 (nI i_4))), (0, .long gg), (2, .int (nI i_4))]) hx hb d_MD_product_13 rfl hl (by decide) rfl (fun ls hl => ?_)
      refine lv_lconst (v := 0) hx hb d_MD_product_14 (by decide) ?_
      refine lv_lstore (lv' := [(4, .long 0), (3, .int (g_MD_power i_4 (nI i_4))), (0, .long gg), (2, .int (nI i_4))]) hx hb d_MD_product_15 hl (by decide) rfl (fun ls hl => ?_)
      refine lv_iconst (v := 0) hx hb d_MD_product_17 (by decide) ?_
      refine lv_istore (lv' := [(6, .int 0), (4, .long 0), (3, .int (g_MD_power i_4 (nI i_4))), (0, .long gg), (2, .int (nI i_4))]) hx hb d_MD_product_18 hl (by decide) rfl (fun ls hl => ?_)
      have lp_20 : ∀ (k_20 : Nat) (i_20 : Nat) (hh : Int64) (ls : Array Slot) (H : Heap) (locs : List Loc), i_20 + k_20 = 5 → lv_has ls 11 [(0, .long gg), (2, .int (nI i_4)), (3, .int (g_MD_power i_4 (nI i_4))), (4, .long hh), (6, .int (nI i_20))] → va_P D cls (fl_w ad (yc ad cA) 41 M) H → va_S (fl_A ad 41) s.heap H locs → (∀ (v : Int64) (ls : Array Slot) (H : Heap) (locs : List Loc), v = g_MD_product_L20 gg i_4 k_20 i_20 hh → lv_has ls 11 [(0, .long gg), (2, .int (nI i_4)), (3, .int (g_MD_power i_4 (nI i_4))), (4, .long v)] → va_P D cls (fl_w ad (yc ad cA) 41 M) H → va_S (fl_A ad 41) s.heap H locs → W p l e (headSpec w_MD_product ({ frames := 2, cells := 0, slots := 0, locals := 45 } : Room)).room s m ([] : List Value).toArray below meth c H locs 0 0 (MQ below (va_Ql (fun r M' => r = (g_MD_product ) ∧ M' = M) (fl_E D cls ad (yc ad cA) 41) (fl_A ad 41)) ([] : List Value).toArray s 0 0 (fl_A ad 41)) (F0 m 93 ls [])) → W p l e (headSpec w_MD_product ({ frames := 2, cells := 0, slots := 0, locals := 45 } : Room)).room s m ([] : List Value).toArray below meth c H locs 0 0 (MQ below (va_Ql (fun r M' => r = (g_MD_product ) ∧ M' = M) (fl_E D cls ad (yc ad cA) 41) (fl_A ad 41)) ([] : List Value).toArray s 0 0 (fl_A ad 41)) (F0 m 20 ls []) := by
        intro k_20
        induction k_20 with
        | zero =>
          intro i_20 hh ls H locs hbd hl hP hS kk
          have hG : g_MD_product_L20 gg i_4 0 i_20 hh = _ := g_MD_product_L20.eq_1 ..
          refine lv_iload hx hb d_MD_product_20 (lv_at hl 4 rfl) ?_
          refine lv_iconst (v := 4) hx hb d_MD_product_22 (by decide) ?_
          refine lv_icmp_gt (tgt := 93) hx hb d_MD_product_23 (by decide) (fun _ => ?_) (fun h_3 => absurd (fl_ltn (b := 4) rfl (by omega) (by omega)) h_3)
          have hl := lv_sub (l' := [(0, .long gg), (2, .int (nI i_4)), (3, .int (g_MD_power i_4 (nI i_4))), (4, .long hh)]) hl [0, 1, 2, 3] rfl
          exact kk (hh) ls _ _ hG.symm hl hP hS
        | succ k_20 ih_20 =>
          intro i_20 hh ls H locs hbd hl hP hS kk
          have hG : g_MD_product_L20 gg i_4 (k_20 + 1) i_20 hh = _ := g_MD_product_L20.eq_2 ..
          refine lv_iload hx hb d_MD_product_20 (lv_at hl 4 rfl) ?_
          refine lv_iconst (v := 4) hx hb d_MD_product_22 (by decide) ?_
          refine lv_icmp_gt (tgt := 93) hx hb d_MD_product_23 (by decide) (fun h_4 => absurd h_4 (fl_nltn (b := 4) rfl (by omega) (by omega))) (fun _ => ?_)
          refine lv_lload_n hx hb d_MD_product_26 rfl (lv_at hl 0 rfl) ?_
          refine lv_iconst (v := 4) hx hb d_MD_product_27 (by decide) ?_
          refine lv_iload hx hb d_MD_product_28 (lv_at hl 4 rfl) ?_
          refine lv_imul hx hb d_MD_product_30 ?_
          refine lv_lshr (v := j_lshr gg (4 * (nI i_20))) hx hb d_MD_product_31 rfl ?_
          refine lv_ldc2 (v := 15) hx hb hown (hts _ (List.mem_cons_of_mem _ tw_780)) d_MD_product_32 ?_
          refine lv_land hx hb d_MD_product_35 ?_
          refine lv_l2i (v := ((j_lshr gg (4 * (nI i_20))) &&& 15).toInt32) hx hb d_MD_product_36 rfl ?_
          refine lv_istore (lv' := [(7, .int (((j_lshr gg (4 * (nI i_20))) &&& 15).toInt32)), (0, .long gg), (2, .int (nI i_4)), (3, .int (g_MD_power i_4 (nI i_4))), (4, .long hh), (6, .int (nI i_20))]) hx hb d_MD_product_37 hl (by decide) rfl (fun ls hl => ?_)
          refine lv_iload hx hb d_MD_product_39 (lv_at hl 5 rfl) ?_
          refine lv_if_ne (tgt := 48) hx hb d_MD_product_41 (by decide) (fun h_5 => ?_) (fun h_5 => ?_)
          ·
            have hG := hG.trans (if_neg h_5)
            refine lv_lload_n hx hb d_MD_product_48 rfl (lv_at hl 1 rfl) ?_
            refine lv_iconst (v := 4) hx hb d_MD_product_49 (by decide) ?_
            refine lv_iload hx hb d_MD_product_50 (lv_at hl 5 rfl) ?_
            refine lv_iconst (v := 1) hx hb d_MD_product_52 (by decide) ?_
            refine lv_isub hx hb d_MD_product_53 ?_
            refine lv_imul hx hb d_MD_product_54 ?_
            refine lv_lshr (v := j_lshr gg (4 * ((nI i_20) - 1))) hx hb d_MD_product_55 rfl ?_
            refine lv_ldc2 (v := 15) hx hb hown (hts _ (List.mem_cons_of_mem _ tw_780)) d_MD_product_56 ?_
            refine lv_land hx hb d_MD_product_59 ?_
            refine lv_l2i (v := ((j_lshr gg (4 * ((nI i_20) - 1))) &&& 15).toInt32) hx hb d_MD_product_60 rfl ?_
            refine lv_istore (lv' := [(8, .int (((j_lshr gg (4 * ((nI i_20) - 1))) &&& 15).toInt32)), (7, .int (((j_lshr gg (4 * (nI i_20))) &&& 15).toInt32)), (0, .long gg), (2, .int (nI i_4)), (3, .int (g_MD_power i_4 (nI i_4))), (4, .long hh), (6, .int (nI i_20))]) hx hb d_MD_product_61 hl (by decide) rfl (fun ls hl => ?_)
            refine lv_iload hx hb d_MD_product_63 (lv_at hl 1 rfl) ?_
            refine lv_iload_n hx hb d_MD_product_65 rfl (lv_at hl 4 rfl) ?_
            refine fl_calli (va_runS (As := [.int (((j_lshr gg (4 * (nI i_20))) &&& 15).toInt32), .int (g_MD_power i_4 (nI i_4))]) (rest := []) ⟨hx, hb, hml, hown, hts⟩ (c_MD_times l hi M (((j_lshr gg (4 * (nI i_20))) &&& 15).toInt32) (g_MD_power i_4 (nI i_4))) (kv_MD_times hts (hts _ (List.mem_cons_of_mem _ tw_777)) ⟨Nat.le_of_ble_eq_true rfl, Nat.le_of_ble_eq_true rfl⟩) (fl_preS hK hSt hN hS hP) rfl rfl hl.1 rfl (lv_room (Nat.le_of_ble_eq_true rfl)) d_MD_product_66 ⟨Nat.zero_le _, Nat.zero_le _⟩) hS (fun H locs hP hS => ?_)
            refine lv_iload hx hb d_MD_product_69 (lv_at hl 0 rfl) ?_
            refine lv_ixor hx hb d_MD_product_71 ?_
            refine lv_i2l (v := ((g_MD_times (((j_lshr gg (4 * (nI i_20))) &&& 15).toInt32) (g_MD_power i_4 (nI i_4))) ^^^ (((j_lshr gg (4 * ((nI i_20) - 1))) &&& 15).toInt32)).toInt64) hx hb d_MD_product_72 rfl ?_
            refine lv_lstore (lv' := [(9, .long (((g_MD_times (((j_lshr gg (4 * (nI i_20))) &&& 15).toInt32) (g_MD_power i_4 (nI i_4))) ^^^ (((j_lshr gg (4 * ((nI i_20) - 1))) &&& 15).toInt32)).toInt64)), (8, .int (((j_lshr gg (4 * ((nI i_20) - 1))) &&& 15).toInt32)), (7, .int (((j_lshr gg (4 * (nI i_20))) &&& 15).toInt32)), (0, .long gg), (2, .int (nI i_4)), (3, .int (g_MD_power i_4 (nI i_4))), (4, .long hh), (6, .int (nI i_20))]) hx hb d_MD_product_73 hl (by decide) rfl (fun ls hl => ?_)
            refine lv_lload hx hb d_MD_product_75 (lv_at hl 6 rfl) ?_
            refine lv_lload hx hb d_MD_product_77 (lv_at hl 0 rfl) ?_
            refine lv_iconst (v := 4) hx hb d_MD_product_79 (by decide) ?_
            refine lv_iload hx hb d_MD_product_80 (lv_at hl 7 rfl) ?_
            refine lv_imul hx hb d_MD_product_82 ?_
            refine lv_lshl (v := j_lshl (((g_MD_times (((j_lshr gg (4 * (nI i_20))) &&& 15).toInt32) (g_MD_power i_4 (nI i_4))) ^^^ (((j_lshr gg (4 * ((nI i_20) - 1))) &&& 15).toInt32)).toInt64) (4 * (nI i_20))) hx hb d_MD_product_83 rfl ?_
            refine lv_lor hx hb d_MD_product_84 ?_
            refine lv_lstore (lv' := [(4, .long (hh ||| (j_lshl (((g_MD_times (((j_lshr gg (4 * (nI i_20))) &&& 15).toInt32) (g_MD_power i_4 (nI i_4))) ^^^ (((j_lshr gg (4 * ((nI i_20) - 1))) &&& 15).toInt32)).toInt64) (4 * (nI i_20))))), (9, .long (((g_MD_times (((j_lshr gg (4 * (nI i_20))) &&& 15).toInt32) (g_MD_power i_4 (nI i_4))) ^^^ (((j_lshr gg (4 * ((nI i_20) - 1))) &&& 15).toInt32)).toInt64)), (8, .int (((j_lshr gg (4 * ((nI i_20) - 1))) &&& 15).toInt32)), (7, .int (((j_lshr gg (4 * (nI i_20))) &&& 15).toInt32)), (0, .long gg), (2, .int (nI i_4)), (3, .int (g_MD_power i_4 (nI i_4))), (6, .int (nI i_20))]) hx hb d_MD_product_85 hl (by decide) rfl (fun ls hl => ?_)
            refine lv_iinc (k := 7) (v := nI (i_20 + 1)) (lv' := [(6, .int (nI (i_20 + 1))), (4, .long (hh ||| (j_lshl (((g_MD_times (((j_lshr gg (4 * (nI i_20))) &&& 15).toInt32) (g_MD_power i_4 (nI i_4))) ^^^ (((j_lshr gg (4 * ((nI i_20) - 1))) &&& 15).toInt32)).toInt64) (4 * (nI i_20))))), (9, .long (((g_MD_times (((j_lshr gg (4 * (nI i_20))) &&& 15).toInt32) (g_MD_power i_4 (nI i_4))) ^^^ (((j_lshr gg (4 * ((nI i_20) - 1))) &&& 15).toInt32)).toInt64)), (8, .int (((j_lshr gg (4 * ((nI i_20) - 1))) &&& 15).toInt32)), (7, .int (((j_lshr gg (4 * (nI i_20))) &&& 15).toInt32)), (0, .long gg), (2, .int (nI i_4)), (3, .int (g_MD_power i_4 (nI i_4)))]) hx hb d_MD_product_87 hl rfl (fl_inc _) (by decide) rfl (fun ls hl => ?_)
            refine lv_goto (tgt := 20) hx hb d_MD_product_90 (by decide) ?_
            have hl := lv_sub (l' := [(0, .long gg), (2, .int (nI i_4)), (3, .int (g_MD_power i_4 (nI i_4))), (4, .long (hh ||| (j_lshl (((g_MD_times (((j_lshr gg (4 * (nI i_20))) &&& 15).toInt32) (g_MD_power i_4 (nI i_4))) ^^^ (((j_lshr gg (4 * ((nI i_20) - 1))) &&& 15).toInt32)).toInt64) (4 * (nI i_20))))), (6, .int (nI (i_20 + 1)))]) hl [5, 6, 7, 1, 0] rfl
            exact ih_20 (i_20 + 1) (hh ||| (j_lshl (((g_MD_times (((j_lshr gg (4 * (nI i_20))) &&& 15).toInt32) (g_MD_power i_4 (nI i_4))) ^^^ (((j_lshr gg (4 * ((nI i_20) - 1))) &&& 15).toInt32)).toInt64) (4 * (nI i_20)))) ls _ _ (by omega) hl hP hS (fun v ls H locs hv => kk v ls H locs (hv.trans hG.symm))
          ·
            have hG := hG.trans (if_pos h_5)
            refine lv_iconst (v := 0) hx hb d_MD_product_44 (by decide) ?_
            refine lv_goto (tgt := 61) hx hb d_MD_product_45 (by decide) ?_
            refine lv_istore (lv' := [(8, .int 0), (7, .int (((j_lshr gg (4 * (nI i_20))) &&& 15).toInt32)), (0, .long gg), (2, .int (nI i_4)), (3, .int (g_MD_power i_4 (nI i_4))), (4, .long hh), (6, .int (nI i_20))]) hx hb d_MD_product_61 hl (by decide) rfl (fun ls hl => ?_)
            refine lv_iload hx hb d_MD_product_63 (lv_at hl 1 rfl) ?_
            refine lv_iload_n hx hb d_MD_product_65 rfl (lv_at hl 4 rfl) ?_
            refine fl_calli (va_runS (As := [.int (((j_lshr gg (4 * (nI i_20))) &&& 15).toInt32), .int (g_MD_power i_4 (nI i_4))]) (rest := []) ⟨hx, hb, hml, hown, hts⟩ (c_MD_times l hi M (((j_lshr gg (4 * (nI i_20))) &&& 15).toInt32) (g_MD_power i_4 (nI i_4))) (kv_MD_times hts (hts _ (List.mem_cons_of_mem _ tw_777)) ⟨Nat.le_of_ble_eq_true rfl, Nat.le_of_ble_eq_true rfl⟩) (fl_preS hK hSt hN hS hP) rfl rfl hl.1 rfl (lv_room (Nat.le_of_ble_eq_true rfl)) d_MD_product_66 ⟨Nat.zero_le _, Nat.zero_le _⟩) hS (fun H locs hP hS => ?_)
            refine lv_iload hx hb d_MD_product_69 (lv_at hl 0 rfl) ?_
            refine lv_ixor hx hb d_MD_product_71 ?_
            refine lv_i2l (v := ((g_MD_times (((j_lshr gg (4 * (nI i_20))) &&& 15).toInt32) (g_MD_power i_4 (nI i_4))) ^^^ 0).toInt64) hx hb d_MD_product_72 rfl ?_
            refine lv_lstore (lv' := [(9, .long (((g_MD_times (((j_lshr gg (4 * (nI i_20))) &&& 15).toInt32) (g_MD_power i_4 (nI i_4))) ^^^ 0).toInt64)), (8, .int 0), (7, .int (((j_lshr gg (4 * (nI i_20))) &&& 15).toInt32)), (0, .long gg), (2, .int (nI i_4)), (3, .int (g_MD_power i_4 (nI i_4))), (4, .long hh), (6, .int (nI i_20))]) hx hb d_MD_product_73 hl (by decide) rfl (fun ls hl => ?_)
            refine lv_lload hx hb d_MD_product_75 (lv_at hl 6 rfl) ?_
            refine lv_lload hx hb d_MD_product_77 (lv_at hl 0 rfl) ?_
            refine lv_iconst (v := 4) hx hb d_MD_product_79 (by decide) ?_
            refine lv_iload hx hb d_MD_product_80 (lv_at hl 7 rfl) ?_
            refine lv_imul hx hb d_MD_product_82 ?_
            refine lv_lshl (v := j_lshl (((g_MD_times (((j_lshr gg (4 * (nI i_20))) &&& 15).toInt32) (g_MD_power i_4 (nI i_4))) ^^^ 0).toInt64) (4 * (nI i_20))) hx hb d_MD_product_83 rfl ?_
            refine lv_lor hx hb d_MD_product_84 ?_
            refine lv_lstore (lv' := [(4, .long (hh ||| (j_lshl (((g_MD_times (((j_lshr gg (4 * (nI i_20))) &&& 15).toInt32) (g_MD_power i_4 (nI i_4))) ^^^ 0).toInt64) (4 * (nI i_20))))), (9, .long (((g_MD_times (((j_lshr gg (4 * (nI i_20))) &&& 15).toInt32) (g_MD_power i_4 (nI i_4))) ^^^ 0).toInt64)), (8, .int 0), (7, .int (((j_lshr gg (4 * (nI i_20))) &&& 15).toInt32)), (0, .long gg), (2, .int (nI i_4)), (3, .int (g_MD_power i_4 (nI i_4))), (6, .int (nI i_20))]) hx hb d_MD_product_85 hl (by decide) rfl (fun ls hl => ?_)
            refine lv_iinc (k := 7) (v := nI (i_20 + 1)) (lv' := [(6, .int (nI (i_20 + 1))), (4, .long (hh ||| (j_lshl (((g_MD_times (((j_lshr gg (4 * (nI i_20))) &&& 15).toInt32) (g_MD_power i_4 (nI i_4))) ^^^ 0).toInt64) (4 * (nI i_20))))), (9, .long (((g_MD_times (((j_lshr gg (4 * (nI i_20))) &&& 15).toInt32) (g_MD_power i_4 (nI i_4))) ^^^ 0).toInt64)), (8, .int 0), (7, .int (((j_lshr gg (4 * (nI i_20))) &&& 15).toInt32)), (0, .long gg), (2, .int (nI i_4)), (3, .int (g_MD_power i_4 (nI i_4)))]) hx hb d_MD_product_87 hl rfl (fl_inc _) (by decide) rfl (fun ls hl => ?_)
            refine lv_goto (tgt := 20) hx hb d_MD_product_90 (by decide) ?_
            have hl := lv_sub (l' := [(0, .long gg), (2, .int (nI i_4)), (3, .int (g_MD_power i_4 (nI i_4))), (4, .long (hh ||| (j_lshl (((g_MD_times (((j_lshr gg (4 * (nI i_20))) &&& 15).toInt32) (g_MD_power i_4 (nI i_4))) ^^^ 0).toInt64) (4 * (nI i_20))))), (6, .int (nI (i_20 + 1)))]) hl [5, 6, 7, 1, 0] rfl
            exact ih_20 (i_20 + 1) (hh ||| (j_lshl (((g_MD_times (((j_lshr gg (4 * (nI i_20))) &&& 15).toInt32) (g_MD_power i_4 (nI i_4))) ^^^ 0).toInt64) (4 * (nI i_20)))) ls _ _ (by omega) hl hP hS (fun v ls H locs hv => kk v ls H locs (hv.trans hG.symm))
      have hl := lv_sub (l' := [(0, .long gg), (2, .int (nI i_4)), (3, .int (g_MD_power i_4 (nI i_4))), (4, .long 0), (6, .int (nI 0))]) hl [3, 4, 2, 1, 0] rfl
      refine lp_20 5 0 0 ls _ _ (by omega) hl hP hS (fun v ls H locs hv hl hP hS => ?_)
      subst hv
      refine lv_lload hx hb d_MD_product_93 (lv_at hl 3 rfl) ?_
      refine lv_lstore_n (lv' := [(0, .long (g_MD_product_L20 gg i_4 5 0 0)), (2, .int (nI i_4)), (3, .int (g_MD_power i_4 (nI i_4))), (4, .long (g_MD_product_L20 gg i_4 5 0 0))]) hx hb d_MD_product_95 rfl hl (by decide) rfl (fun ls hl => ?_)
      refine lv_iinc (k := 1) (v := nI (i_4 + 1)) (lv' := [(2, .int (nI (i_4 + 1))), (0, .long (g_MD_product_L20 gg i_4 5 0 0)), (3, .int (g_MD_power i_4 (nI i_4))), (4, .long (g_MD_product_L20 gg i_4 5 0 0))]) hx hb d_MD_product_96 hl rfl (fl_inc _) (by decide) rfl (fun ls hl => ?_)
      refine lv_goto (tgt := 4) hx hb d_MD_product_99 (by decide) ?_
      have hl := lv_sub (l' := [(0, .long (g_MD_product_L20 gg i_4 5 0 0)), (2, .int (nI (i_4 + 1)))]) hl [1, 0] rfl
      exact ih_4 (i_4 + 1) (g_MD_product_L20 gg i_4 5 0 0) ls _ _ (by omega) hl hP hS (fun v ls H locs hv => kk v ls H locs (hv.trans hG.symm))
  have hl := lv_sub (l' := [(0, .long 1), (2, .int (nI 1))]) hl [1, 0] rfl
  refine lp_4 4 1 1 ls _ _ (by omega) hl hP hS (fun v ls H locs hv hl hP hS => ?_)
  subst hv
  refine lv_lload_n hx hb d_MD_product_102 rfl (lv_at hl 0 rfl) ?_
  exact fl_lret hx hb hr hlocks hP hS hG.symm rfl d_MD_product_103
theorem hd_MD_product : y_MD_product.cls ≠ "java/lang/invoke/MethodHandle" ∧ y_MD_product.cls ≠ "java/lang/invoke/VarHandle" ∧ (parseMethodDescriptor y_MD_product.desc).map (fun d => d.parameters.length) = some 0 := by decide +kernel
theorem kv_MD_product {R : Room} {s : State} {args : Array Value} {c0 : Cond} {own : String} {index : Nat} (hts : ∀ w ∈ c0 :: gw, w.before args s = true) (hl : (Cond.methodLink own index y_MD_product).before args s = true) (hR : 2 + 1 ≤ R.frames ∧ 8 + (11 + 11) + 45 ≤ R.locals) : CallB R s args own index y_MD_product b_MD_product 11 (some .long) w_MD_product ({ frames := 2, cells := 0, slots := 0, locals := 45 } : Room) 0 0 0 ∧ (Cond.static y_MD_product).before args s = true := ⟨callB_of 0 hts (gw_in tw_773) rfl rfl rfl (hts _ (List.mem_cons_of_mem _ tw_10)) hl hd_MD_product hR, hts _ (List.mem_cons_of_mem _ tw_772)⟩
def g_MD_encode_L65 (M : fl_M) (rr : Int64) (k_42 : Nat) : Nat → Nat → Int64 → Int64
  | 0, i_65, r2 => (r2)
  | k_65 + 1, i_65, r2 => g_MD_encode_L65 M rr k_42 k_65 (i_65 + 1) (r2 ^^^ (j_lshl ((g_MD_times (((j_lshr rr (4 * (nI ((k_42 + 1) + 3)))) &&& 15).toInt32) (((j_lshr (M.2 0 2) (4 * (nI i_65))) &&& 15).toInt32)).toInt64) (4 * (((nI ((k_42 + 1) + 3)) - 4) + (nI i_65)))))
def g_MD_encode_L42 (M : fl_M) : Nat → Int64 → Int64
  | 0, rr => (rr)
  | k_42 + 1, rr => g_MD_encode_L42 M k_42 (g_MD_encode_L65 M rr k_42 5 0 rr)
def g_MD_encode (M : fl_M) (x1 : Int32) (x2 : Int64) : Int64 :=
  if x1 = 0 then ((j_lshl (x2 &&& 17592186044415) 16) ^^^ (g_MD_encode_L42 M 11 (j_lshl (x2 &&& 17592186044415) 16))) else ((j_lshl (x2 &&& 72057594037927935) 7) ^^^ ((g_MD_upRest (j_lshl (x2 &&& 72057594037927935) 7)).toInt64))
set_option maxHeartbeats 400000 in
set_option maxRecDepth 100000 in
theorem c_MD_encode (l : Launch) {D : va_G} {ad : Nat → Nat} {cA : Nat → ClassId} (hi : fl_inj ad 41) (M : fl_M) (x1 : Int32) (x2 : Int64) : Met l y_MD_encode w_MD_encode ({ frames := 1, cells := 0, slots := 0, locals := 24 } : Room) (va_Pc [.ref (ad 0), .int x1, .long x2] (fl_B D cls (yt cA) ([] : fl_L) ([] : fl_FN) ([] : fl_MN) ad (yc ad cA) 41 M)) (va_Ql (fun r M' => r = (g_MD_encode M x1 x2) ∧ M' = M) (fl_E D cls ad (yc ad cA) 41) (fl_A ad 41)) 0 0 (fl_A ad 41) := by
  refine Met.ofW (cc := b_MD_encode) (maxL := 13) (ret := (some .long)) (by decide) rfl ?_
  intro p e s m args below meth c s₁ B hml hv
  obtain ⟨rfl, hP, hK, hSt, hN⟩ := hv
  have hx := B.exec
  have hb := B.bytes
  have hr := B.returns
  have hts := atoms_spec (ws := w_MD_encode) B.pre
  have hown : s.vm.findClass "FarLinkModel" = some m.cls := findClass_of_methodNamed B.named
  have hlocks := B.notSynchronized
  have hS : va_S (fl_A ad 41) s.heap s.heap [] := va_S.rf
  have hl := lv_entry ([.ref (ad 0), .int x1, .long x2]) (n := 13) (Nat.le_of_ble_eq_true rfl)
  rw [lg_entry_eq]
  generalize (lg_sl ([.ref (ad 0), .int x1, .long x2]) ++ List.replicate (13 - (lg_sl ([.ref (ad 0), .int x1, .long x2])).length) Slot.unset).toArray = ls at hl ⊢
  have hl : lv_has ls 13 [(0, .ref (ad 0)), (1, .int x1), (2, .long x2)] := hl
  have hG := g_MD_encode.eq_1 M x1 x2
  refine lv_iload_n hx hb d_MD_encode_0 rfl (lv_at hl 1 rfl) ?_
  refine lv_if_eq (tgt := 24) hx hb d_MD_encode_1 (by decide) (fun h_1 => ?_) (fun h_1 => ?_)
  ·
    have hG := hG.trans (if_pos h_1)
    refine lv_lload_n hx hb d_MD_encode_24 rfl (lv_at hl 2 rfl) ?_
    refine lv_ldc2 (v := 17592186044415) hx hb hown (hts _ (List.mem_cons_of_mem _ tw_963)) d_MD_encode_25 ?_
    refine lv_land hx hb d_MD_encode_28 ?_
    refine lv_bipush (v := 16) hx hb d_MD_encode_29 (by decide) ?_
    refine lv_lshl (v := j_lshl (x2 &&& 17592186044415) 16) hx hb d_MD_encode_31 rfl ?_
    refine lv_lstore (lv' := [(4, .long (j_lshl (x2 &&& 17592186044415) 16)), (0, .ref (ad 0)), (1, .int x1), (2, .long x2)]) hx hb d_MD_encode_32 hl (by decide) rfl (fun ls hl => ?_)
    refine lv_lload hx hb d_MD_encode_34 (lv_at hl 0 rfl) ?_
    refine lv_lstore (lv' := [(6, .long (j_lshl (x2 &&& 17592186044415) 16)), (4, .long (j_lshl (x2 &&& 17592186044415) 16)), (0, .ref (ad 0)), (1, .int x1), (2, .long x2)]) hx hb d_MD_encode_36 hl (by decide) rfl (fun ls hl => ?_)
    refine lv_bipush (v := 14) hx hb d_MD_encode_38 (by decide) ?_
    refine lv_istore (lv' := [(8, .int 14), (6, .long (j_lshl (x2 &&& 17592186044415) 16)), (4, .long (j_lshl (x2 &&& 17592186044415) 16)), (0, .ref (ad 0)), (1, .int x1), (2, .long x2)]) hx hb d_MD_encode_40 hl (by decide) rfl (fun ls hl => ?_)
    have lp_42 : ∀ (k_42 : Nat) (rr : Int64) (ls : Array Slot) (H : Heap) (locs : List Loc), k_42 ≤ 11 → lv_has ls 13 [(0, .ref (ad 0)), (4, .long (j_lshl (x2 &&& 17592186044415) 16)), (6, .long rr), (8, .int (nI (k_42 + 3)))] → va_P D cls (fl_w ad (yc ad cA) 41 M) H → va_S (fl_A ad 41) s.heap H locs → (∀ (v : Int64) (ls : Array Slot) (H : Heap) (locs : List Loc), v = g_MD_encode_L42 M k_42 rr → lv_has ls 13 [(0, .ref (ad 0)), (4, .long (j_lshl (x2 &&& 17592186044415) 16)), (6, .long v)] → va_P D cls (fl_w ad (yc ad cA) 41 M) H → va_S (fl_A ad 41) s.heap H locs → W p l e (headSpec w_MD_encode ({ frames := 1, cells := 0, slots := 0, locals := 24 } : Room)).room s m ([.ref (ad 0), .int x1, .long x2] : List Value).toArray below meth c H locs 0 0 (MQ below (va_Ql (fun r M' => r = (g_MD_encode M x1 x2) ∧ M' = M) (fl_E D cls ad (yc ad cA) 41) (fl_A ad 41)) ([.ref (ad 0), .int x1, .long x2] : List Value).toArray s 0 0 (fl_A ad 41)) (F0 m 122 ls [])) → W p l e (headSpec w_MD_encode ({ frames := 1, cells := 0, slots := 0, locals := 24 } : Room)).room s m ([.ref (ad 0), .int x1, .long x2] : List Value).toArray below meth c H locs 0 0 (MQ below (va_Ql (fun r M' => r = (g_MD_encode M x1 x2) ∧ M' = M) (fl_E D cls ad (yc ad cA) 41) (fl_A ad 41)) ([.ref (ad 0), .int x1, .long x2] : List Value).toArray s 0 0 (fl_A ad 41)) (F0 m 42 ls []) := by
      intro k_42
      induction k_42 with
      | zero =>
        intro rr ls H locs hbd hl hP hS kk
        have hG : g_MD_encode_L42 M 0 rr = _ := g_MD_encode_L42.eq_1 ..
        refine lv_iload hx hb d_MD_encode_42 (lv_at hl 3 rfl) ?_
        refine lv_iconst (v := 4) hx hb d_MD_encode_44 (by decide) ?_
        refine lv_icmp_lt (tgt := 122) hx hb d_MD_encode_45 (by decide) (fun _ => ?_) (fun h_2 => absurd (by decide) h_2)
        have hl := lv_sub (l' := [(0, .ref (ad 0)), (4, .long (j_lshl (x2 &&& 17592186044415) 16)), (6, .long rr)]) hl [0, 1, 2] rfl
        exact kk (rr) ls _ _ hG.symm hl hP hS
      | succ k_42 ih_42 =>
        intro rr ls H locs hbd hl hP hS kk
        have hG : g_MD_encode_L42 M (k_42 + 1) rr = _ := g_MD_encode_L42.eq_2 ..
        refine lv_iload hx hb d_MD_encode_42 (lv_at hl 3 rfl) ?_
        refine lv_iconst (v := 4) hx hb d_MD_encode_44 (by decide) ?_
        refine lv_icmp_lt (tgt := 122) hx hb d_MD_encode_45 (by decide) (fun h_3 => absurd h_3 (fl_nlt (b := 4) rfl (by omega) (by omega))) (fun _ => ?_)
        refine lv_lload hx hb d_MD_encode_48 (lv_at hl 2 rfl) ?_
        refine lv_iconst (v := 4) hx hb d_MD_encode_50 (by decide) ?_
        refine lv_iload hx hb d_MD_encode_51 (lv_at hl 3 rfl) ?_
        refine lv_imul hx hb d_MD_encode_53 ?_
        refine lv_lshr (v := j_lshr rr (4 * (nI ((k_42 + 1) + 3)))) hx hb d_MD_encode_54 rfl ?_
        refine lv_ldc2 (v := 15) hx hb hown (hts _ (List.mem_cons_of_mem _ tw_780)) d_MD_encode_55 ?_
        refine lv_land hx hb d_MD_encode_58 ?_
        refine lv_l2i (v := ((j_lshr rr (4 * (nI ((k_42 + 1) + 3)))) &&& 15).toInt32) hx hb d_MD_encode_59 rfl ?_
        refine lv_istore (lv' := [(9, .int (((j_lshr rr (4 * (nI ((k_42 + 1) + 3)))) &&& 15).toInt32)), (0, .ref (ad 0)), (4, .long (j_lshl (x2 &&& 17592186044415) 16)), (6, .long rr), (8, .int (nI ((k_42 + 1) + 3)))]) hx hb d_MD_encode_60 hl (by decide) rfl (fun ls hl => ?_)
        refine lv_iconst (v := 0) hx hb d_MD_encode_62 (by decide) ?_
        refine lv_istore (lv' := [(10, .int 0), (9, .int (((j_lshr rr (4 * (nI ((k_42 + 1) + 3)))) &&& 15).toInt32)), (0, .ref (ad 0)), (4, .long (j_lshl (x2 &&& 17592186044415) 16)), (6, .long rr), (8, .int (nI ((k_42 + 1) + 3)))]) hx hb d_MD_encode_63 hl (by decide) rfl (fun ls hl => ?_)
        have lp_65 : ∀ (k_65 : Nat) (i_65 : Nat) (r2 : Int64) (ls : Array Slot) (H : Heap) (locs : List Loc), i_65 + k_65 = 5 → lv_has ls 13 [(0, .ref (ad 0)), (4, .long (j_lshl (x2 &&& 17592186044415) 16)), (6, .long r2), (8, .int (nI ((k_42 + 1) + 3))), (9, .int (((j_lshr rr (4 * (nI ((k_42 + 1) + 3)))) &&& 15).toInt32)), (10, .int (nI i_65))] → va_P D cls (fl_w ad (yc ad cA) 41 M) H → va_S (fl_A ad 41) s.heap H locs → (∀ (v : Int64) (ls : Array Slot) (H : Heap) (locs : List Loc), v = g_MD_encode_L65 M rr k_42 k_65 i_65 r2 → lv_has ls 13 [(0, .ref (ad 0)), (4, .long (j_lshl (x2 &&& 17592186044415) 16)), (6, .long v), (8, .int (nI ((k_42 + 1) + 3))), (9, .int (((j_lshr rr (4 * (nI ((k_42 + 1) + 3)))) &&& 15).toInt32))] → va_P D cls (fl_w ad (yc ad cA) 41 M) H → va_S (fl_A ad 41) s.heap H locs → W p l e (headSpec w_MD_encode ({ frames := 1, cells := 0, slots := 0, locals := 24 } : Room)).room s m ([.ref (ad 0), .int x1, .long x2] : List Value).toArray below meth c H locs 0 0 (MQ below (va_Ql (fun r M' => r = (g_MD_encode M x1 x2) ∧ M' = M) (fl_E D cls ad (yc ad cA) 41) (fl_A ad 41)) ([.ref (ad 0), .int x1, .long x2] : List Value).toArray s 0 0 (fl_A ad 41)) (F0 m 116 ls [])) → W p l e (headSpec w_MD_encode ({ frames := 1, cells := 0, slots := 0, locals := 24 } : Room)).room s m ([.ref (ad 0), .int x1, .long x2] : List Value).toArray below meth c H locs 0 0 (MQ below (va_Ql (fun r M' => r = (g_MD_encode M x1 x2) ∧ M' = M) (fl_E D cls ad (yc ad cA) 41) (fl_A ad 41)) ([.ref (ad 0), .int x1, .long x2] : List Value).toArray s 0 0 (fl_A ad 41)) (F0 m 65 ls []) := by
          intro k_65
          induction k_65 with
          | zero =>
            intro i_65 r2 ls H locs hbd hl hP hS kk
            have hG : g_MD_encode_L65 M rr k_42 0 i_65 r2 = _ := g_MD_encode_L65.eq_1 ..
            refine lv_iload hx hb d_MD_encode_65 (lv_at hl 5 rfl) ?_
            refine lv_iconst (v := 5) hx hb d_MD_encode_67 (by decide) ?_
            refine lv_icmp_ge (tgt := 116) hx hb d_MD_encode_68 (by decide) (fun _ => ?_) (fun h_4 => absurd (fl_le (b := 5) rfl (by omega) (by omega)) h_4)
            have hl := lv_sub (l' := [(0, .ref (ad 0)), (4, .long (j_lshl (x2 &&& 17592186044415) 16)), (6, .long r2), (8, .int (nI ((k_42 + 1) + 3))), (9, .int (((j_lshr rr (4 * (nI ((k_42 + 1) + 3)))) &&& 15).toInt32))]) hl [0, 1, 2, 3, 4] rfl
            exact kk (r2) ls _ _ hG.symm hl hP hS
          | succ k_65 ih_65 =>
            intro i_65 r2 ls H locs hbd hl hP hS kk
            have hG : g_MD_encode_L65 M rr k_42 (k_65 + 1) i_65 r2 = _ := g_MD_encode_L65.eq_2 ..
            refine lv_iload hx hb d_MD_encode_65 (lv_at hl 5 rfl) ?_
            refine lv_iconst (v := 5) hx hb d_MD_encode_67 (by decide) ?_
            refine lv_icmp_ge (tgt := 116) hx hb d_MD_encode_68 (by decide) (fun h_5 => absurd h_5 (fl_nle (b := 5) rfl (by omega) (by omega))) (fun _ => ?_)
            refine lv_iload hx hb d_MD_encode_71 (lv_at hl 4 rfl) ?_
            refine lv_aload_n hx hb d_MD_encode_73 rfl (lv_at hl 0 rfl) ?_
            refine gg_MD (k := 2) (v := .long (M.2 0 2)) hx hb hts hown hK hP  (hts _ (List.mem_cons_of_mem _ tw_783)) (by decide) rfl rfl d_MD_encode_74 ?_
            refine lv_iconst (v := 4) hx hb d_MD_encode_77 (by decide) ?_
            refine lv_iload hx hb d_MD_encode_78 (lv_at hl 5 rfl) ?_
            refine lv_imul hx hb d_MD_encode_80 ?_
            refine lv_lshr (v := j_lshr (M.2 0 2) (4 * (nI i_65))) hx hb d_MD_encode_81 rfl ?_
            refine lv_ldc2 (v := 15) hx hb hown (hts _ (List.mem_cons_of_mem _ tw_780)) d_MD_encode_82 ?_
            refine lv_land hx hb d_MD_encode_85 ?_
            refine lv_l2i (v := ((j_lshr (M.2 0 2) (4 * (nI i_65))) &&& 15).toInt32) hx hb d_MD_encode_86 rfl ?_
            refine fl_calli (va_runS (As := [.int (((j_lshr rr (4 * (nI ((k_42 + 1) + 3)))) &&& 15).toInt32), .int (((j_lshr (M.2 0 2) (4 * (nI i_65))) &&& 15).toInt32)]) (rest := []) ⟨hx, hb, hml, hown, hts⟩ (c_MD_times l hi M (((j_lshr rr (4 * (nI ((k_42 + 1) + 3)))) &&& 15).toInt32) (((j_lshr (M.2 0 2) (4 * (nI i_65))) &&& 15).toInt32)) (kv_MD_times hts (hts _ (List.mem_cons_of_mem _ tw_777)) ⟨Nat.le_of_ble_eq_true rfl, Nat.le_of_ble_eq_true rfl⟩) (fl_preS hK hSt hN hS hP) rfl rfl hl.1 rfl (lv_room (Nat.le_of_ble_eq_true rfl)) d_MD_encode_87 ⟨Nat.zero_le _, Nat.zero_le _⟩) hS (fun H locs hP hS => ?_)
            refine lv_i2l (v := (g_MD_times (((j_lshr rr (4 * (nI ((k_42 + 1) + 3)))) &&& 15).toInt32) (((j_lshr (M.2 0 2) (4 * (nI i_65))) &&& 15).toInt32)).toInt64) hx hb d_MD_encode_90 rfl ?_
            refine lv_lstore (lv' := [(11, .long ((g_MD_times (((j_lshr rr (4 * (nI ((k_42 + 1) + 3)))) &&& 15).toInt32) (((j_lshr (M.2 0 2) (4 * (nI i_65))) &&& 15).toInt32)).toInt64)), (0, .ref (ad 0)), (4, .long (j_lshl (x2 &&& 17592186044415) 16)), (6, .long r2), (8, .int (nI ((k_42 + 1) + 3))), (9, .int (((j_lshr rr (4 * (nI ((k_42 + 1) + 3)))) &&& 15).toInt32)), (10, .int (nI i_65))]) hx hb d_MD_encode_91 hl (by decide) rfl (fun ls hl => ?_)
            refine lv_lload hx hb d_MD_encode_93 (lv_at hl 3 rfl) ?_
            refine lv_lload hx hb d_MD_encode_95 (lv_at hl 0 rfl) ?_
            refine lv_iconst (v := 4) hx hb d_MD_encode_97 (by decide) ?_
            refine lv_iload hx hb d_MD_encode_98 (lv_at hl 4 rfl) ?_
            refine lv_iconst (v := 4) hx hb d_MD_encode_100 (by decide) ?_
            refine lv_isub hx hb d_MD_encode_101 ?_
            refine lv_iload hx hb d_MD_encode_102 (lv_at hl 6 rfl) ?_
            refine lv_iadd hx hb d_MD_encode_104 ?_
            refine lv_imul hx hb d_MD_encode_105 ?_
            refine lv_lshl (v := j_lshl ((g_MD_times (((j_lshr rr (4 * (nI ((k_42 + 1) + 3)))) &&& 15).toInt32) (((j_lshr (M.2 0 2) (4 * (nI i_65))) &&& 15).toInt32)).toInt64) (4 * (((nI ((k_42 + 1) + 3)) - 4) + (nI i_65)))) hx hb d_MD_encode_106 rfl ?_
            refine lv_lxor hx hb d_MD_encode_107 ?_
            refine lv_lstore (lv' := [(6, .long (r2 ^^^ (j_lshl ((g_MD_times (((j_lshr rr (4 * (nI ((k_42 + 1) + 3)))) &&& 15).toInt32) (((j_lshr (M.2 0 2) (4 * (nI i_65))) &&& 15).toInt32)).toInt64) (4 * (((nI ((k_42 + 1) + 3)) - 4) + (nI i_65)))))), (11, .long ((g_MD_times (((j_lshr rr (4 * (nI ((k_42 + 1) + 3)))) &&& 15).toInt32) (((j_lshr (M.2 0 2) (4 * (nI i_65))) &&& 15).toInt32)).toInt64)), (0, .ref (ad 0)), (4, .long (j_lshl (x2 &&& 17592186044415) 16)), (8, .int (nI ((k_42 + 1) + 3))), (9, .int (((j_lshr rr (4 * (nI ((k_42 + 1) + 3)))) &&& 15).toInt32)), (10, .int (nI i_65))]) hx hb d_MD_encode_108 hl (by decide) rfl (fun ls hl => ?_)
            refine lv_iinc (k := 6) (v := nI (i_65 + 1)) (lv' := [(10, .int (nI (i_65 + 1))), (6, .long (r2 ^^^ (j_lshl ((g_MD_times (((j_lshr rr (4 * (nI ((k_42 + 1) + 3)))) &&& 15).toInt32) (((j_lshr (M.2 0 2) (4 * (nI i_65))) &&& 15).toInt32)).toInt64) (4 * (((nI ((k_42 + 1) + 3)) - 4) + (nI i_65)))))), (11, .long ((g_MD_times (((j_lshr rr (4 * (nI ((k_42 + 1) + 3)))) &&& 15).toInt32) (((j_lshr (M.2 0 2) (4 * (nI i_65))) &&& 15).toInt32)).toInt64)), (0, .ref (ad 0)), (4, .long (j_lshl (x2 &&& 17592186044415) 16)), (8, .int (nI ((k_42 + 1) + 3))), (9, .int (((j_lshr rr (4 * (nI ((k_42 + 1) + 3)))) &&& 15).toInt32))]) hx hb d_MD_encode_110 hl rfl (fl_inc _) (by decide) rfl (fun ls hl => ?_)
            refine lv_goto (tgt := 65) hx hb d_MD_encode_113 (by decide) ?_
            have hl := lv_sub (l' := [(0, .ref (ad 0)), (4, .long (j_lshl (x2 &&& 17592186044415) 16)), (6, .long (r2 ^^^ (j_lshl ((g_MD_times (((j_lshr rr (4 * (nI ((k_42 + 1) + 3)))) &&& 15).toInt32) (((j_lshr (M.2 0 2) (4 * (nI i_65))) &&& 15).toInt32)).toInt64) (4 * (((nI ((k_42 + 1) + 3)) - 4) + (nI i_65)))))), (8, .int (nI ((k_42 + 1) + 3))), (9, .int (((j_lshr rr (4 * (nI ((k_42 + 1) + 3)))) &&& 15).toInt32)), (10, .int (nI (i_65 + 1)))]) hl [3, 4, 1, 5, 6, 0] rfl
            exact ih_65 (i_65 + 1) (r2 ^^^ (j_lshl ((g_MD_times (((j_lshr rr (4 * (nI ((k_42 + 1) + 3)))) &&& 15).toInt32) (((j_lshr (M.2 0 2) (4 * (nI i_65))) &&& 15).toInt32)).toInt64) (4 * (((nI ((k_42 + 1) + 3)) - 4) + (nI i_65))))) ls _ _ (by omega) hl hP hS (fun v ls H locs hv => kk v ls H locs (hv.trans hG.symm))
        have hl := lv_sub (l' := [(0, .ref (ad 0)), (4, .long (j_lshl (x2 &&& 17592186044415) 16)), (6, .long rr), (8, .int (nI ((k_42 + 1) + 3))), (9, .int (((j_lshr rr (4 * (nI ((k_42 + 1) + 3)))) &&& 15).toInt32)), (10, .int (nI 0))]) hl [2, 3, 4, 5, 1, 0] rfl
        refine lp_65 5 0 rr ls _ _ (by omega) hl hP hS (fun v ls H locs hv hl hP hS => ?_)
        subst hv
        refine lv_iinc (k := 3) (v := nI (k_42 + 3)) (lv' := [(8, .int (nI (k_42 + 3))), (0, .ref (ad 0)), (4, .long (j_lshl (x2 &&& 17592186044415) 16)), (6, .long (g_MD_encode_L65 M rr k_42 5 0 rr)), (9, .int (((j_lshr rr (4 * (nI ((k_42 + 1) + 3)))) &&& 15).toInt32))]) hx hb d_MD_encode_116 hl rfl (fl_dec (k_42 + 3)) (by decide) rfl (fun ls hl => ?_)
        refine lv_goto (tgt := 42) hx hb d_MD_encode_119 (by decide) ?_
        have hl := lv_sub (l' := [(0, .ref (ad 0)), (4, .long (j_lshl (x2 &&& 17592186044415) 16)), (6, .long (g_MD_encode_L65 M rr k_42 5 0 rr)), (8, .int (nI (k_42 + 3)))]) hl [1, 2, 3, 0] rfl
        exact ih_42 (g_MD_encode_L65 M rr k_42 5 0 rr) ls _ _ (by omega) hl hP hS (fun v ls H locs hv => kk v ls H locs (hv.trans hG.symm))
    have hl := lv_sub (l' := [(0, .ref (ad 0)), (4, .long (j_lshl (x2 &&& 17592186044415) 16)), (6, .long (j_lshl (x2 &&& 17592186044415) 16)), (8, .int (nI (11 + 3)))]) hl [3, 2, 1, 0] rfl
    refine lp_42 11 (j_lshl (x2 &&& 17592186044415) 16) ls _ _ (by omega) hl hP hS (fun v ls H locs hv hl hP hS => ?_)
    subst hv
    refine lv_lload hx hb d_MD_encode_122 (lv_at hl 1 rfl) ?_
    refine lv_lload hx hb d_MD_encode_124 (lv_at hl 2 rfl) ?_
    refine lv_lxor hx hb d_MD_encode_126 ?_
    exact fl_lret hx hb hr hlocks hP hS hG.symm rfl d_MD_encode_127
  ·
    have hG := hG.trans (if_neg h_1)
    refine lv_lload_n hx hb d_MD_encode_4 rfl (lv_at hl 2 rfl) ?_
    refine lv_ldc2 (v := 72057594037927935) hx hb hown (hts _ (List.mem_cons_of_mem _ tw_957)) d_MD_encode_5 ?_
    refine lv_land hx hb d_MD_encode_8 ?_
    refine lv_bipush (v := 7) hx hb d_MD_encode_9 (by decide) ?_
    refine lv_lshl (v := j_lshl (x2 &&& 72057594037927935) 7) hx hb d_MD_encode_11 rfl ?_
    refine lv_lstore (lv' := [(4, .long (j_lshl (x2 &&& 72057594037927935) 7)), (0, .ref (ad 0)), (1, .int x1), (2, .long x2)]) hx hb d_MD_encode_12 hl (by decide) rfl (fun ls hl => ?_)
    refine lv_lload hx hb d_MD_encode_14 (lv_at hl 0 rfl) ?_
    refine lv_lload hx hb d_MD_encode_16 (lv_at hl 0 rfl) ?_
    refine fl_calli (va_runS (As := [.long (j_lshl (x2 &&& 72057594037927935) 7)]) (rest := [.long (j_lshl (x2 &&& 72057594037927935) 7)]) ⟨hx, hb, hml, hown, hts⟩ (c_MD_upRest l hi M (j_lshl (x2 &&& 72057594037927935) 7)) (kv_MD_upRest hts (hts _ (List.mem_cons_of_mem _ tw_958)) ⟨Nat.le_of_ble_eq_true rfl, Nat.le_of_ble_eq_true rfl⟩) (fl_preS hK hSt hN hS hP) rfl rfl hl.1 rfl (lv_room (Nat.le_of_ble_eq_true rfl)) d_MD_encode_18 ⟨Nat.zero_le _, Nat.zero_le _⟩) hS (fun H locs hP hS => ?_)
    refine lv_i2l (v := (g_MD_upRest (j_lshl (x2 &&& 72057594037927935) 7)).toInt64) hx hb d_MD_encode_21 rfl ?_
    refine lv_lxor hx hb d_MD_encode_22 ?_
    exact fl_lret hx hb hr hlocks hP hS hG.symm rfl d_MD_encode_23
theorem hd_MD_encode : y_MD_encode.cls ≠ "java/lang/invoke/MethodHandle" ∧ y_MD_encode.cls ≠ "java/lang/invoke/VarHandle" ∧ (parseMethodDescriptor y_MD_encode.desc).map (fun d => d.parameters.length) = some 2 := by decide +kernel
theorem kv_MD_encode {R : Room} {s : State} {args : Array Value} {c0 : Cond} {own : String} {index : Nat} (hts : ∀ w ∈ c0 :: gw, w.before args s = true) (hl : (Cond.methodLink own index y_MD_encode).before args s = true) (hR : 1 + 1 ≤ R.frames ∧ 8 + (13 + 11) + 24 ≤ R.locals) : CallW R s args own "FarLinkModel" index y_MD_encode b_MD_encode 13 (some .long) w_MD_encode ({ frames := 1, cells := 0, slots := 0, locals := 24 } : Room) 0 0 2 := ⟨callB_of 2 hts (gw_in tw_956) rfl rfl rfl (hts _ (List.mem_cons_of_mem _ tw_10)) hl hd_MD_encode hR, hts _ (List.mem_cons_of_mem _ tw_954), hts _ (List.mem_cons_of_mem _ tw_955)⟩
def g_MD_decode (x1 : Int32) (x2 : Int64) : Int64 :=
  if x1 = 0 then ((g_MD_decodeDown (x2 &&& 1152921504606846975))) else ((g_MD_decodeUp (x2 &&& 9223372036854775807)))
set_option maxHeartbeats 400000 in
set_option maxRecDepth 100000 in
theorem c_MD_decode (l : Launch) {D : va_G} {ad : Nat → Nat} {cA : Nat → ClassId} (hi : fl_inj ad 41) (M : fl_M) (x1 : Int32) (x2 : Int64) : Met l y_MD_decode w_MD_decode ({ frames := 5, cells := 0, slots := 0, locals := 120 } : Room) (va_Pc [.ref (ad 0), .int x1, .long x2] (fl_B D cls (yt cA) ([] : fl_L) ([] : fl_FN) ([] : fl_MN) ad (yc ad cA) 41 M)) (va_Ql (fun r M' => r = (g_MD_decode x1 x2) ∧ M' = M) (fl_E D cls ad (yc ad cA) 41) (fl_A ad 41)) 0 0 (fl_A ad 41) := by
  refine Met.ofW (cc := b_MD_decode) (maxL := 6) (ret := (some .long)) (by decide) rfl ?_
  intro p e s m args below meth c s₁ B hml hv
  obtain ⟨rfl, hP, hK, hSt, hN⟩ := hv
  have hx := B.exec
  have hb := B.bytes
  have hr := B.returns
  have hts := atoms_spec (ws := w_MD_decode) B.pre
  have hown : s.vm.findClass "FarLinkModel" = some m.cls := findClass_of_methodNamed B.named
  have hlocks := B.notSynchronized
  have hS : va_S (fl_A ad 41) s.heap s.heap [] := va_S.rf
  have hl := lv_entry ([.ref (ad 0), .int x1, .long x2]) (n := 6) (Nat.le_of_ble_eq_true rfl)
  rw [lg_entry_eq]
  generalize (lg_sl ([.ref (ad 0), .int x1, .long x2]) ++ List.replicate (6 - (lg_sl ([.ref (ad 0), .int x1, .long x2])).length) Slot.unset).toArray = ls at hl ⊢
  have hl : lv_has ls 6 [(0, .ref (ad 0)), (1, .int x1), (2, .long x2)] := hl
  have hG := g_MD_decode.eq_1 x1 x2
  refine lv_lload_n hx hb d_MD_decode_0 rfl (lv_at hl 2 rfl) ?_
  refine lv_iload_n hx hb d_MD_decode_1 rfl (lv_at hl 1 rfl) ?_
  refine lv_if_eq (tgt := 11) hx hb d_MD_decode_2 (by decide) (fun h_1 => ?_) (fun h_1 => ?_)
  ·
    have hG := hG.trans (if_pos h_1)
    refine lv_ldc2 (v := 1152921504606846975) hx hb hown (hts _ (List.mem_cons_of_mem _ tw_969)) d_MD_decode_11 ?_
    refine lv_land hx hb d_MD_decode_14 ?_
    refine lv_lstore (lv' := [(4, .long (x2 &&& 1152921504606846975)), (0, .ref (ad 0)), (1, .int x1), (2, .long x2)]) hx hb d_MD_decode_15 hl (by decide) rfl (fun ls hl => ?_)
    refine lv_iload_n hx hb d_MD_decode_17 rfl (lv_at hl 2 rfl) ?_
    refine lv_if_eq (tgt := 29) hx hb d_MD_decode_18 (by decide) (fun _ => ?_) (fun h_2 => absurd (h_1) h_2)
    refine lv_lload hx hb d_MD_decode_29 (lv_at hl 0 rfl) ?_
    refine fl_calll (va_runS (As := [.long (x2 &&& 1152921504606846975)]) (rest := []) ⟨hx, hb, hml, hown, hts⟩ (c_MD_decodeDown l hi M (x2 &&& 1152921504606846975)) (kv_MD_decodeDown hts (hts _ (List.mem_cons_of_mem _ tw_974)) ⟨Nat.le_of_ble_eq_true rfl, Nat.le_of_ble_eq_true rfl⟩) (fl_preS hK hSt hN hS hP) rfl rfl hl.1 rfl (lv_room (Nat.le_of_ble_eq_true rfl)) d_MD_decode_31 ⟨Nat.zero_le _, Nat.zero_le _⟩) hS (fun H locs hP hS => ?_)
    exact fl_lret hx hb hr hlocks hP hS hG.symm rfl d_MD_decode_34
  ·
    have hG := hG.trans (if_neg h_1)
    refine lv_ldc2 (v := 9223372036854775807) hx hb hown (hts _ (List.mem_cons_of_mem _ tw_968)) d_MD_decode_5 ?_
    refine lv_goto (tgt := 14) hx hb d_MD_decode_8 (by decide) ?_
    refine lv_land hx hb d_MD_decode_14 ?_
    refine lv_lstore (lv' := [(4, .long (x2 &&& 9223372036854775807)), (0, .ref (ad 0)), (1, .int x1), (2, .long x2)]) hx hb d_MD_decode_15 hl (by decide) rfl (fun ls hl => ?_)
    refine lv_iload_n hx hb d_MD_decode_17 rfl (lv_at hl 2 rfl) ?_
    refine lv_if_eq (tgt := 29) hx hb d_MD_decode_18 (by decide) (fun h_3 => absurd h_3 (h_1)) (fun _ => ?_)
    refine lv_lload hx hb d_MD_decode_21 (lv_at hl 0 rfl) ?_
    refine fl_calll (va_runS (As := [.long (x2 &&& 9223372036854775807)]) (rest := []) ⟨hx, hb, hml, hown, hts⟩ (c_MD_decodeUp l hi M (x2 &&& 9223372036854775807)) (kv_MD_decodeUp hts (hts _ (List.mem_cons_of_mem _ tw_970)) ⟨Nat.le_of_ble_eq_true rfl, Nat.le_of_ble_eq_true rfl⟩) (fl_preS hK hSt hN hS hP) rfl rfl hl.1 rfl (lv_room (Nat.le_of_ble_eq_true rfl)) d_MD_decode_23 ⟨Nat.zero_le _, Nat.zero_le _⟩) hS (fun H locs hP hS => ?_)
    refine lv_goto (tgt := 34) hx hb d_MD_decode_26 (by decide) ?_
    exact fl_lret hx hb hr hlocks hP hS hG.symm rfl d_MD_decode_34
theorem hd_MD_decode : y_MD_decode.cls ≠ "java/lang/invoke/MethodHandle" ∧ y_MD_decode.cls ≠ "java/lang/invoke/VarHandle" ∧ (parseMethodDescriptor y_MD_decode.desc).map (fun d => d.parameters.length) = some 2 := by decide +kernel
theorem kv_MD_decode {R : Room} {s : State} {args : Array Value} {c0 : Cond} {own : String} {index : Nat} (hts : ∀ w ∈ c0 :: gw, w.before args s = true) (hl : (Cond.methodLink own index y_MD_decode).before args s = true) (hR : 5 + 1 ≤ R.frames ∧ 8 + (6 + 11) + 120 ≤ R.locals) : CallW R s args own "FarLinkModel" index y_MD_decode b_MD_decode 6 (some .long) w_MD_decode ({ frames := 5, cells := 0, slots := 0, locals := 120 } : Room) 0 0 2 := ⟨callB_of 2 hts (gw_in tw_967) rfl rfl rfl (hts _ (List.mem_cons_of_mem _ tw_10)) hl hd_MD_decode hR, hts _ (List.mem_cons_of_mem _ tw_965), hts _ (List.mem_cons_of_mem _ tw_966)⟩
