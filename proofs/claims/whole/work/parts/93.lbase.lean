/-! the law: two objects in one heap, the script, the calls -/
def lA (s : State) : Nat → Prop := fun q => s.heap.size ≤ q
/-- what stays through the law -/
def lwV (s : State) (D : va_G) (cA : Nat → ClassId) (st ad ad' : Nat → Nat) : Prop := va_K D cls (xt cA) s ∧ fl_St (xSL st) (lA s) s ∧ fl_N xFN xMN s ∧ fl_inj ad 88 ∧ fl_inj ad' 41 ∧ (∀ k, k < 88 → lA s (ad k)) ∧ (∀ k, k < 41 → lA s (ad' k)) ∧ ∀ i j, i < 88 → j < 41 → ad i ≠ ad' j
/-- the two objects' memories -/
def lwM (s : State) (D : va_G) (cA : Nat → ClassId) (ad ad' : Nat → Nat) (M N : fl_M) (H : Heap) (locs : List Loc) : Prop := va_P D cls (fl_w ad (xc ad cA) 88 M) H ∧ va_P D cls (fl_w ad' (yc ad' cA) 41 N) H ∧ va_S (lA s) s.heap H locs
theorem fl_St.nar {SL : fl_L} {A B : Nat → Prop} {U : State} (h : fl_St SL A U) (hAB : ∀ q, B q → A q) : fl_St SL B U := fun q hq => ⟨(h q hq).1.narrow hAB, (h q hq).2.narrow hAB⟩
theorem lw_sx {s : State} {D : va_G} {cA : Nat → ClassId} {st ad ad' : Nat → Nat} (E : lwV s D cA st ad ad') : ∀ q, fl_A ad 88 q → lA s q := fun q h => by
  obtain ⟨k, hk, rfl⟩ := h
  exact E.2.2.2.2.2.1 k hk
theorem lw_sy {s : State} {D : va_G} {cA : Nat → ClassId} {st ad ad' : Nat → Nat} (E : lwV s D cA st ad ad') : ∀ q, fl_A ad' 41 q → lA s q := fun q h => by
  obtain ⟨k, hk, rfl⟩ := h
  exact E.2.2.2.2.2.2.1 k hk
theorem lw_preX {s : State} {D : va_G} {cA : Nat → ClassId} {st ad ad' : Nat → Nat} {M N : fl_M} {H : Heap} {locs : List Loc} {As : List Value} (E : lwV s D cA st ad ad') (h : lwM s D cA ad ad' M N H locs) : PreV s H "FarLink" (ad 0) (va_Pc (.ref (ad 0) :: As) (fl_B D cls (xt cA) (xSL st) xFN xMN ad (xc ad cA) 88 M)) As :=
  ⟨fl_B.blind, va_recv E.1 h.1 (q := ("FarLink", F_FL, 6)) rfl (fl_get (q := 0) (by decide) kg_FL), fun U hU hW => ⟨rfl, by rw [hU]; exact h.1, va_K.moved hW.alike E.1, (E.2.1.on h.2.2 hU hW).nar (lw_sx E), E.2.2.1.on hW⟩⟩
theorem lw_preY {s : State} {D : va_G} {cA : Nat → ClassId} {st ad ad' : Nat → Nat} {M N : fl_M} {H : Heap} {locs : List Loc} {As : List Value} (E : lwV s D cA st ad ad') (h : lwM s D cA ad ad' M N H locs) : PreV s H "FarLinkModel" (ad' 0) (va_Pc (.ref (ad' 0) :: As) (fl_B D cls (yt cA) ([] : fl_L) ([] : fl_FN) ([] : fl_MN) ad' (yc ad' cA) 41 N)) As :=
  ⟨fl_B.blind, va_recv E.1 h.2.1 (q := ("FarLinkModel", F_MD, 57)) rfl (fl_get (q := 0) (by decide) kg_MD), fun U hU hW => ⟨rfl, by rw [hU]; exact h.2.1, va_K.moved hW.alike (E.1.sub (tys' := yt cA) [0, 1, 2] rfl), fun q hq => absurd hq List.not_mem_nil, ⟨fun w h => absurd h List.not_mem_nil, fun w h => absurd h List.not_mem_nil⟩⟩⟩
theorem lw_kx {s : State} {D : va_G} {cA : Nat → ClassId} {st ad ad' : Nat → Nat} {N : fl_M} {H H1 : Heap} (E : lwV s D cA st ad ad') (hP : va_P D cls (fl_w ad' (yc ad' cA) 41 N) H) (hk : ∀ q : Nat, q < H.size → ¬ fl_A ad 88 q → H1[q]? = H[q]?) : va_P D cls (fl_w ad' (yc ad' cA) 41 N) H1 :=
  hP.kept (fun k x hx => hk x.1 ((hP k x hx).lt) (fun c => by
    obtain ⟨hk1, rfl⟩ := fl_of hx
    obtain ⟨i, hi, e⟩ := c
    exact E.2.2.2.2.2.2.2 i k hi hk1 e.symm))
theorem lw_ky {s : State} {D : va_G} {cA : Nat → ClassId} {st ad ad' : Nat → Nat} {M : fl_M} {H H1 : Heap} (E : lwV s D cA st ad ad') (hP : va_P D cls (fl_w ad (xc ad cA) 88 M) H) (hk : ∀ q : Nat, q < H.size → ¬ fl_A ad' 41 q → H1[q]? = H[q]?) : va_P D cls (fl_w ad (xc ad cA) 88 M) H1 :=
  hP.kept (fun k x hx => hk x.1 ((hP k x hx).lt) (fun c => by
    obtain ⟨hk1, rfl⟩ := fl_of hx
    obtain ⟨j, hj, e⟩ := c
    exact E.2.2.2.2.2.2.2 k j hk1 hj e))
section LB
variable {p : Program} {l : Launch} {e : Env} {R : Room} {s : State} {m : MethodId} {args : Array Value} {below : List Frame} {meth : Method} {c : Code} {H : Heap} {locs : List Loc} {cells slots : Nat} {Q : State → Prop}
variable {cc : ByteArray} {pc : Nat} {ls : Array Slot} {rest st0 : List Value} {a : Array Value} {D : va_G} {cA : Nat → ClassId} {st ad ad' : Nat → Nat} {M N MM : fl_M}
theorem lw_xi {rr : Int32} (E : lwV s D cA st ad ad') (hr : va_Run p l e R s m args below meth c H locs cells slots 0 0 (F0 m pc ls st0) rest (va_Qi (fun r M' => r = rr ∧ M' = MM) (fl_E D cls ad (xc ad cA) 88) (fl_A ad 88) a) (fl_A ad 88)) (h : lwM s D cA ad ad' M N H locs) (kk : ∀ (H1 : Heap) (locs1 : List Loc), lwM s D cA ad ad' MM N H1 locs1 → W p l e R s m args below meth c H1 locs1 cells slots Q (F0 m (pc + 3) ls (.int rr :: rest))) : W p l e R s m args below meth c H locs cells slots Q (F0 m pc ls st0) := by
  refine va_calli hr h.2.2 (fun q _ c => lw_sx E q c) (lw_sx E) (fun r M' t H1 locs1 ht hvm hpost hB hz hk hS1 => ?_)
  obtain ⟨rfl, rfl⟩ := hpost
  subst ht
  exact kk t.heap locs1 ⟨hB, lw_kx E h.2.1 hk, hS1⟩
theorem lw_xl {rr : Int64} (E : lwV s D cA st ad ad') (hr : va_Run p l e R s m args below meth c H locs cells slots 0 0 (F0 m pc ls st0) rest (va_Ql (fun r M' => r = rr ∧ M' = MM) (fl_E D cls ad (xc ad cA) 88) (fl_A ad 88) a) (fl_A ad 88)) (h : lwM s D cA ad ad' M N H locs) (kk : ∀ (H1 : Heap) (locs1 : List Loc), lwM s D cA ad ad' MM N H1 locs1 → W p l e R s m args below meth c H1 locs1 cells slots Q (F0 m (pc + 3) ls (.long rr :: rest))) : W p l e R s m args below meth c H locs cells slots Q (F0 m pc ls st0) := by
  refine va_calll hr h.2.2 (fun q _ c => lw_sx E q c) (lw_sx E) (fun r M' t H1 locs1 ht hvm hpost hB hz hk hS1 => ?_)
  obtain ⟨rfl, rfl⟩ := hpost
  subst ht
  exact kk t.heap locs1 ⟨hB, lw_kx E h.2.1 hk, hS1⟩
theorem lw_xv (E : lwV s D cA st ad ad') (hr : va_Run p l e R s m args below meth c H locs cells slots 0 0 (F0 m pc ls st0) rest (va_Qv (fun M' => M' = MM) (fl_E D cls ad (xc ad cA) 88) (fl_A ad 88) a) (fl_A ad 88)) (h : lwM s D cA ad ad' M N H locs) (kk : ∀ (H1 : Heap) (locs1 : List Loc), lwM s D cA ad ad' MM N H1 locs1 → W p l e R s m args below meth c H1 locs1 cells slots Q (F0 m (pc + 3) ls rest)) : W p l e R s m args below meth c H locs cells slots Q (F0 m pc ls st0) := by
  refine va_callv hr h.2.2 (fun q _ c => lw_sx E q c) (lw_sx E) (fun M' t H1 locs1 ht hvm hpost hB hz hk hS1 => ?_)
  subst hpost
  subst ht
  exact kk t.heap locs1 ⟨hB, lw_kx E h.2.1 hk, hS1⟩
theorem lw_yi {rr : Int32} (E : lwV s D cA st ad ad') (hr : va_Run p l e R s m args below meth c H locs cells slots 0 0 (F0 m pc ls st0) rest (va_Qi (fun r M' => r = rr ∧ M' = MM) (fl_E D cls ad' (yc ad' cA) 41) (fl_A ad' 41) a) (fl_A ad' 41)) (h : lwM s D cA ad ad' M N H locs) (kk : ∀ (H1 : Heap) (locs1 : List Loc), lwM s D cA ad ad' M MM H1 locs1 → W p l e R s m args below meth c H1 locs1 cells slots Q (F0 m (pc + 3) ls (.int rr :: rest))) : W p l e R s m args below meth c H locs cells slots Q (F0 m pc ls st0) := by
  refine va_calli hr h.2.2 (fun q _ c => lw_sy E q c) (lw_sy E) (fun r M' t H1 locs1 ht hvm hpost hB hz hk hS1 => ?_)
  obtain ⟨rfl, rfl⟩ := hpost
  subst ht
  exact kk t.heap locs1 ⟨lw_ky E h.1 hk, hB, hS1⟩
theorem lw_yl {rr : Int64} (E : lwV s D cA st ad ad') (hr : va_Run p l e R s m args below meth c H locs cells slots 0 0 (F0 m pc ls st0) rest (va_Ql (fun r M' => r = rr ∧ M' = MM) (fl_E D cls ad' (yc ad' cA) 41) (fl_A ad' 41) a) (fl_A ad' 41)) (h : lwM s D cA ad ad' M N H locs) (kk : ∀ (H1 : Heap) (locs1 : List Loc), lwM s D cA ad ad' M MM H1 locs1 → W p l e R s m args below meth c H1 locs1 cells slots Q (F0 m (pc + 3) ls (.long rr :: rest))) : W p l e R s m args below meth c H locs cells slots Q (F0 m pc ls st0) := by
  refine va_calll hr h.2.2 (fun q _ c => lw_sy E q c) (lw_sy E) (fun r M' t H1 locs1 ht hvm hpost hB hz hk hS1 => ?_)
  obtain ⟨rfl, rfl⟩ := hpost
  subst ht
  exact kk t.heap locs1 ⟨lw_ky E h.1 hk, hB, hS1⟩
theorem lw_yv (E : lwV s D cA st ad ad') (hr : va_Run p l e R s m args below meth c H locs cells slots 0 0 (F0 m pc ls st0) rest (va_Qv (fun M' => M' = MM) (fl_E D cls ad' (yc ad' cA) 41) (fl_A ad' 41) a) (fl_A ad' 41)) (h : lwM s D cA ad ad' M N H locs) (kk : ∀ (H1 : Heap) (locs1 : List Loc), lwM s D cA ad ad' M MM H1 locs1 → W p l e R s m args below meth c H1 locs1 cells slots Q (F0 m (pc + 3) ls rest)) : W p l e R s m args below meth c H locs cells slots Q (F0 m pc ls st0) := by
  refine va_callv hr h.2.2 (fun q _ c => lw_sy E q c) (lw_sy E) (fun M' t H1 locs1 ht hvm hpost hB hz hk hS1 => ?_)
  subst hpost
  subst ht
  exact kk t.heap locs1 ⟨lw_ky E h.1 hk, hB, hS1⟩
/-- an int of the script, the place counted from the call's own -/
theorem lw_arg {b L i k o1 o2 : Nat} {xs : Nat → Int32} {kv : Int} (hx : p.tables.exec = Jvm.exec) (hb : c.code = cc) (hX : va_X b L xs s s.heap) (hbl : b < s.heap.size) (hS : va_S (lA s) s.heap H locs) (hL : L ≤ 2561) (hl : lv_has ls 4 [(0, .ref b), (1, .ref o1), (2, .ref o2), (3, .int (nI i))]) (hik : i + k < L) (hkv : Int32.ofInt kv = nI k) (d0 : decode cc pc = .ok (.aload_n 0, 1)) (d1 : decode cc (pc + 1) = .ok (.iload_n 3, 1)) (d2 : decode cc (pc + 1 + 1) = .ok (.iconst kv, 1)) (d3 : decode cc (pc + 1 + 1 + 1) = .ok (.iadd, 1)) (d4 : decode cc (pc + 1 + 1 + 1 + 1) = .ok (.iaload, 1))
    (kk : W p l e R s m args below meth c H locs cells slots Q (F0 m (pc + 1 + 1 + 1 + 1 + 1) ls (.int (xs (i + k)) :: rest))) : W p l e R s m args below meth c H locs cells slots Q (F0 m pc ls rest) := by
  refine lv_aload_n hx hb d0 rfl (lv_at hl 0 rfl) ?_
  refine lv_iload_n hx hb d1 rfl (lv_at hl 3 rfl) ?_
  refine lv_iconst (v := nI k) hx hb d2 hkv ?_
  refine lv_iadd hx hb d3 ?_
  rw [nI_add]
  refine va_sld hx hb hX hbl (fun c => absurd hbl (Nat.not_lt.mpr c)) hS (vp_in_nI hik (by omega)) d4 ?_
  rw [nI_clamp (by omega)]
  exact kk
def zb (x : Int32) : Int32 := if x = 0 then 0 else 1
theorem zb_z (x : Int32) : zb x &&& 1 = zb x := by
  unfold zb
  split <;> decide
theorem lw_zb {x : Int32} (hx : p.tables.exec = Jvm.exec) (hb : c.code = cc) {pb pd : Nat} {o1 o2 : Int} (d0 : decode cc pc = .ok (.ifCond .eq o1, 3)) (h0 : (pc : Int) + o1 = (pb : Int)) (d1 : decode cc (pc + 3) = .ok (.iconst 1, 1)) (d2 : decode cc (pc + 3 + 1) = .ok (.goto o2, 3)) (h2 : ((pc + 3 + 1 : Nat) : Int) + o2 = (pd : Int)) (d3 : decode cc pb = .ok (.iconst 0, 1)) (h3 : pb + 1 = pd)
    (kk : W p l e R s m args below meth c H locs cells slots Q (F0 m pd ls (.int (zb x) :: rest))) : W p l e R s m args below meth c H locs cells slots Q (F0 m pc ls (.int x :: rest)) := by
  refine lv_if_eq (tgt := pb) hx hb d0 h0 (fun h => ?_) (fun h => ?_)
  · refine lv_iconst (v := 0) hx hb d3 (by decide) ?_
    rw [h3, show (0 : Int32) = zb x from (if_pos h).symm]
    exact kk
  · refine lv_iconst (v := 1) hx hb d1 (by decide) ?_
    refine lv_goto (tgt := pd) hx hb d2 h2 ?_
    rw [show (1 : Int32) = zb x from (if_neg h).symm]
    exact kk
theorem lw_drop {g : JFrame} (h : ∀ x ∈ locs, lA s x.base) (kk : W p l e R s m args below meth c H [] cells slots Q g) : W p l e R s m args below meth c H locs cells slots Q g := by
  intro T hT X
  exact kk T hT (Stand.dropFresh (locs := []) (J := locs) X h)
end LB
