/-! a contract's start and end over a numbered world; statics: tables of ints that stand outside it -/
abbrev fl_L : Type := List (String × String × Nat × Nat × (Nat → Int32))
def fl_St (SL : fl_L) (A : Nat → Prop) (U : State) : Prop := ∀ q ∈ SL, va_Z q.1 q.2.1 "[I" (.ref q.2.2.1) A U U.heap ∧ va_T .int q.2.2.1 q.2.2.2.1 (fun j => .int (q.2.2.2.2 j)) A U U.heap
theorem fl_St.on {SL : fl_L} {A : Nat → Prop} {s U : State} {H : Heap} {locs : List Loc} (h : fl_St SL A s) (hS : va_S A s.heap H locs) (hU : U.heap = H) (hW : s.WarmedH U.vm) : fl_St SL A U := fun q hq => by
  obtain ⟨h1, h2⟩ := h q hq
  rw [hU]
  exact ⟨(h1.kept hS.2.1).moved hW.alike, (h2.kept hS.2.1).moved hW.alike⟩
theorem fl_St.blind {SL : fl_L} {A : Nat → Prop} {U : State} {g : JFrame} {mk : MethodId} {a : Array Value} (h : fl_St SL A U) : fl_St SL A (U.calling g mk a) := fun q hq => by
  obtain ⟨h1, h2⟩ := h q hq
  exact ⟨va_Z.moved (u := U) (U := U.calling g mk a) (Vm.Alike.refl U.vm) h1, va_T.moved (u := U) (U := U.calling g mk a) (Vm.Alike.refl U.vm) h2⟩
/-- links to members of nest mates: they hold at every state, but don't stand among a method's words -/
abbrev fl_FN : Type := List (String × Nat × String × String × String × String)
abbrev fl_MN : Type := List (String × Nat × MethodName × String)
def fl_N (FN : fl_FN) (MN : fl_MN) (U : State) : Prop := (∀ w ∈ FN, va_Nw (.fieldLinkNest w.1 w.2.1 w.2.2.1 w.2.2.2.1 w.2.2.2.2.1 w.2.2.2.2.2) U) ∧ ∀ w ∈ MN, va_Nw (.methodLinkNest w.1 w.2.1 w.2.2.1 w.2.2.2) U
theorem fl_N.on {FN : fl_FN} {MN : fl_MN} {s U : State} (h : fl_N FN MN s) (hW : s.WarmedH U.vm) : fl_N FN MN U := ⟨fun w hw => va_Nw.warmF hW (h.1 w hw), fun w hw => va_Nw.warmM hW (h.2 w hw)⟩
theorem fl_N.blind {FN : fl_FN} {MN : fl_MN} {U : State} {g : JFrame} {mk : MethodId} {a : Array Value} (h : fl_N FN MN U) : fl_N FN MN (U.calling g mk a) := ⟨fun w hw => va_Nw.same (u := U) rfl rfl (h.1 w hw), fun w hw => va_Nw.same (u := U) rfl rfl (h.2 w hw)⟩
theorem fl_N.f {FN : fl_FN} {MN : fl_MN} {s : State} (h : fl_N FN MN s) {args : Array Value} (k : Nat) {a : String} {i : Nat} {b n d o : String} (hk : FN[k]? = some (a, i, b, n, d, o)) : (Cond.fieldLinkNest a i b n d o).before args s = true := va_Nw.use rfl (h.1 _ (List.mem_of_getElem? hk))
theorem fl_N.m {FN : fl_FN} {MN : fl_MN} {s : State} (h : fl_N FN MN s) (k : Nat) {a : String} {i : Nat} {x : MethodName} {o : String} (hk : MN[k]? = some (a, i, x, o)) : va_Nw (.methodLinkNest a i x o) s := h.2 _ (List.mem_of_getElem? hk)
def fl_B (D : va_G) (cl : List vw_C) (tys : List (ClassId × FieldType)) (SL : fl_L) (FN : fl_FN) (MN : fl_MN) (ad : Nat → Nat) (cf : fl_C) (n : Nat) (M : fl_M) (U : State) : Prop := va_P D cl (fl_w ad cf n M) U.heap ∧ va_K D cl tys U ∧ fl_St SL (fl_A ad n) U ∧ fl_N FN MN U
def fl_E (D : va_G) (cl : List vw_C) (ad : Nat → Nat) (cf : fl_C) (n : Nat) (M : fl_M) (t : State) : Prop := va_P D cl (fl_w ad cf n M) t.heap
theorem fl_B.blind {D : va_G} {cl : List vw_C} {tys : List (ClassId × FieldType)} {SL : fl_L} {FN : fl_FN} {MN : fl_MN} {ad : Nat → Nat} {cf : fl_C} {n : Nat} {M : fl_M} {av : List Value} : FrameBlind (va_Pc av (fl_B D cl tys SL FN MN ad cf n M)) := fun a U g mk q => by
  obtain ⟨q0, qP, qK, qS, qN⟩ := q
  exact ⟨q0, qP, va_K.moved (u := U) (U := U.calling g mk a) (Vm.Alike.refl U.vm) qK, qS.blind, qN.blind⟩
section FLC
variable {p : Program} {l : Launch} {e : Env} {R : Room} {s : State} {m : MethodId} {args : Array Value} {below : List Frame} {meth : Method} {c : Code} {H : Heap} {locs : List Loc} {cells slots : Nat} {Q : State → Prop}
variable {pc : Nat} {ls : Array Slot} {rest st0 : List Value} {D : va_G} {cl : List vw_C} {tys : List (ClassId × FieldType)} {SL : fl_L} {FN : fl_FN} {MN : fl_MN} {H0 : Heap} {ad : Nat → Nat} {cf : fl_C} {n : Nat} {M : fl_M} {a : Array Value}
theorem fl_preS {As : List Value} (hK : va_K D cl tys s) (hSt : fl_St SL (fl_A ad n) s) (hN : fl_N FN MN s) (hS : va_S (fl_A ad n) s.heap H locs) (hP : va_P D cl (fl_w ad cf n M) H) : PreS s H (va_Pc As (fl_B D cl tys SL FN MN ad cf n M)) As :=
  ⟨fl_B.blind, fun U hU hW => ⟨rfl, by rw [hU]; exact hP, va_K.moved hW.alike hK, hSt.on hS hU hW, hN.on hW⟩⟩
theorem fl_preV {As : List Value} {q ci : Nat} {fs : List Value} {T : u_T} {N : Nat} {C : String} (hK : va_K D cl tys s) (hSt : fl_St SL (fl_A ad n) s) (hN : fl_N FN MN s) (hS : va_S (fl_A ad n) s.heap H locs) (hP : va_P D cl (fl_w ad cf n M) H) (hq : q < n) (hc : cf q (M.1 q) (M.2 q) = .inr (ci, fs)) (hcl : cl[ci]? = some (C, T, N)) : PreV s H C (ad q) (va_Pc (.ref (ad q) :: As) (fl_B D cl tys SL FN MN ad cf n M)) As :=
  ⟨fl_B.blind, va_recv hK hP hcl (fl_get hq hc), fun U hU hW => ⟨rfl, by rw [hU]; exact hP, va_K.moved hW.alike hK, hSt.on hS hU hW, hN.on hW⟩⟩
theorem fl_calli {rr : Int32} {MM : fl_M} (hr : va_Run p l e R s m args below meth c H locs cells slots 0 0 (F0 m pc ls st0) rest (va_Qi (fun r M' => r = rr ∧ M' = MM) (fl_E D cl ad cf n) (fl_A ad n) a) (fl_A ad n)) (hS : va_S (fl_A ad n) H0 H locs) (kk : ∀ (H1 : Heap) (locs1 : List Loc), va_P D cl (fl_w ad cf n MM) H1 → va_S (fl_A ad n) H0 H1 locs1 → W p l e R s m args below meth c H1 locs1 cells slots Q (F0 m (pc + 3) ls (.int rr :: rest))) : W p l e R s m args below meth c H locs cells slots Q (F0 m pc ls st0) := by
  refine va_calli hr hS (fun q _ h => h) (fun q h => h) (fun r u t H1 locs1 ht hvm hp hB hz hk hS1 => ?_)
  obtain ⟨rfl, rfl⟩ := hp
  exact kk H1 locs1 (by rw [← ht]; exact hB) hS1
theorem fl_calll {rr : Int64} {MM : fl_M} (hr : va_Run p l e R s m args below meth c H locs cells slots 0 0 (F0 m pc ls st0) rest (va_Ql (fun r M' => r = rr ∧ M' = MM) (fl_E D cl ad cf n) (fl_A ad n) a) (fl_A ad n)) (hS : va_S (fl_A ad n) H0 H locs) (kk : ∀ (H1 : Heap) (locs1 : List Loc), va_P D cl (fl_w ad cf n MM) H1 → va_S (fl_A ad n) H0 H1 locs1 → W p l e R s m args below meth c H1 locs1 cells slots Q (F0 m (pc + 3) ls (.long rr :: rest))) : W p l e R s m args below meth c H locs cells slots Q (F0 m pc ls st0) := by
  refine va_calll hr hS (fun q _ h => h) (fun q h => h) (fun r u t H1 locs1 ht hvm hp hB hz hk hS1 => ?_)
  obtain ⟨rfl, rfl⟩ := hp
  exact kk H1 locs1 (by rw [← ht]; exact hB) hS1
theorem fl_callv {MM : fl_M} (hr : va_Run p l e R s m args below meth c H locs cells slots 0 0 (F0 m pc ls st0) rest (va_Qv (fun M' => M' = MM) (fl_E D cl ad cf n) (fl_A ad n) a) (fl_A ad n)) (hS : va_S (fl_A ad n) H0 H locs) (kk : ∀ (H1 : Heap) (locs1 : List Loc), va_P D cl (fl_w ad cf n MM) H1 → va_S (fl_A ad n) H0 H1 locs1 → W p l e R s m args below meth c H1 locs1 cells slots Q (F0 m (pc + 3) ls rest)) : W p l e R s m args below meth c H locs cells slots Q (F0 m pc ls st0) := by
  refine va_callv hr hS (fun q _ h => h) (fun q h => h) (fun u t H1 locs1 ht hvm hp hB hz hk hS1 => ?_)
  subst hp
  exact kk H1 locs1 (by rw [← ht]; exact hB) hS1
/-- the ends -/
theorem fl_iret {cc : ByteArray} {rr v : Int32} {MM M1 : fl_M} (hexec : p.tables.exec = Jvm.exec) (hb : c.code = cc) (hr : meth.sig.returnType = some .int) (hlocks : meth.locks = false) (hP : va_P D cl (fl_w ad cf n M1) H) (hS : va_S (fl_A ad n) s.heap H locs) (e1 : v = rr) (e2 : M1 = MM) (hdg : decode cc pc = .ok (.ireturn, 1)) : W p l e R s m args below meth c H locs cells slots (MQ below (va_Qi (fun r M' => r = rr ∧ M' = MM) (fl_E D cl ad cf n) (fl_A ad n)) args s cells slots (fl_A ad n)) (F0 m pc ls [.int v]) :=
  W.iret (v := v) hexec hb hr (fun t ht hW => ⟨⟨v, M1, rfl, ⟨e1, e2⟩, by show va_P _ _ _ t.heap; rw [ht]; exact hP⟩, hS.F ht⟩) hS.2.2 hdg hlocks
theorem fl_zret {cc : ByteArray} {rr v : Int32} {MM M1 : fl_M} (hexec : p.tables.exec = Jvm.exec) (hb : c.code = cc) (hr : meth.sig.returnType = some .boolean) (hlocks : meth.locks = false) (hP : va_P D cl (fl_w ad cf n M1) H) (hS : va_S (fl_A ad n) s.heap H locs) (hz : v &&& 1 = v) (e1 : v = rr) (e2 : M1 = MM) (hdg : decode cc pc = .ok (.ireturn, 1)) : W p l e R s m args below meth c H locs cells slots (MQ below (va_Qi (fun r M' => r = rr ∧ M' = MM) (fl_E D cl ad cf n) (fl_A ad n)) args s cells slots (fl_A ad n)) (F0 m pc ls [.int v]) :=
  W.zret (v := v) hexec hb hr (congrArg Value.int hz) (fun t ht hW => ⟨⟨v, M1, rfl, ⟨e1, e2⟩, by show va_P _ _ _ t.heap; rw [ht]; exact hP⟩, hS.F ht⟩) hS.2.2 hdg hlocks
theorem fl_lret {cc : ByteArray} {rr v : Int64} {MM M1 : fl_M} (hexec : p.tables.exec = Jvm.exec) (hb : c.code = cc) (hr : meth.sig.returnType = some .long) (hlocks : meth.locks = false) (hP : va_P D cl (fl_w ad cf n M1) H) (hS : va_S (fl_A ad n) s.heap H locs) (e1 : v = rr) (e2 : M1 = MM) (hdg : decode cc pc = .ok (.lreturn, 1)) : W p l e R s m args below meth c H locs cells slots (MQ below (va_Ql (fun r M' => r = rr ∧ M' = MM) (fl_E D cl ad cf n) (fl_A ad n)) args s cells slots (fl_A ad n)) (F0 m pc ls [.long v]) :=
  W.lret (v := v) hexec hb hr (fun t ht hW => ⟨⟨v, M1, rfl, ⟨e1, e2⟩, by show va_P _ _ _ t.heap; rw [ht]; exact hP⟩, hS.F ht⟩) hS.2.2 hdg hlocks
theorem fl_vret {cc : ByteArray} {MM M1 : fl_M} (hexec : p.tables.exec = Jvm.exec) (hb : c.code = cc) (hr : meth.sig.returnType = none) (hlocks : meth.locks = false) (hP : va_P D cl (fl_w ad cf n M1) H) (hS : va_S (fl_A ad n) s.heap H locs) (e2 : M1 = MM) (hdg : decode cc pc = .ok (.return_, 1)) : W p l e R s m args below meth c H locs cells slots (MQ below (va_Qv (fun M' => M' = MM) (fl_E D cl ad cf n) (fl_A ad n)) args s cells slots (fl_A ad n)) (F0 m pc ls []) :=
  W.vret hexec hb hr (fun t ht hW => ⟨⟨M1, rfl, e2, by show va_P _ _ _ t.heap; rw [ht]; exact hP⟩, hS.F ht⟩) hS.2.2 hdg hlocks
end FLC
