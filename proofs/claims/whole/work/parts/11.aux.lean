/-! numbers that aren't below 0; answers that are references; a copy of 16 words -/
def nn (x : Int32) : Prop := x = nI x.toNatClampNeg
theorem tn_lt (x : Int32) : x.toNatClampNeg < 2 ^ 31 := by
  have h := Int32.toInt_lt x
  show x.toInt.toNat < 2 ^ 31
  omega
theorem nn_of {x : Int32} (h : ¬ x < 0) : nn x := by
  obtain ⟨j, hj, rfl⟩ := nI_of h
  show nI j = nI (nI j).toNatClampNeg
  rw [nI_clamp hj]
theorem nn_nI {j : Nat} (hj : j < 2 ^ 31) : nn (nI j) := by
  show nI j = nI (nI j).toNatClampNeg
  rw [nI_clamp hj]
section FLX
variable {p : Program} {l : Launch} {e : Env} {R : Room} {s : State} {m : MethodId} {args : Array Value} {below : List Frame} {meth : Method} {c : Code} {H : Heap} {locs : List Loc} {cells slots : Nat} {Q : State → Prop}
variable {pc : Nat} {ls : Array Slot} {rest st0 : List Value} {D : va_G} {cl : List vw_C} {H0 : Heap} {ad : Nat → Nat} {cf : fl_C} {n : Nat} {M : fl_M} {a : Array Value}
theorem fl_callr {qq : Nat} {MM : fl_M} (hr : va_Run p l e R s m args below meth c H locs cells slots 0 0 (F0 m pc ls st0) rest (va_Qr (fun M' => M' = MM) (fun M' a t => a = ad qq ∧ fl_E D cl ad cf n M' t) (fl_A ad n) a) (fl_A ad n)) (hS : va_S (fl_A ad n) H0 H locs) (kk : ∀ (H1 : Heap) (locs1 : List Loc), va_P D cl (fl_w ad cf n MM) H1 → va_S (fl_A ad n) H0 H1 locs1 → W p l e R s m args below meth c H1 locs1 cells slots Q (F0 m (pc + 3) ls (.ref (ad qq) :: rest))) : W p l e R s m args below meth c H locs cells slots Q (F0 m pc ls st0) := by
  refine va_callr hr hS (fun q _ h => h) (fun q h => h) (fun u ra t H1 locs1 ht hvm hp hB hz hk hS1 => ?_)
  subst hp
  obtain ⟨rfl, hB⟩ := hB
  exact kk H1 locs1 (by rw [← ht]; exact hB) hS1
theorem fl_aret {cc : ByteArray} {v qq : Nat} {MM M1 : fl_M} {rt : FieldType} (hexec : p.tables.exec = Jvm.exec) (hb : c.code = cc) (hr : meth.sig.returnType = some rt) (hrt : (∃ n, rt = .object n) ∨ ∃ t, rt = .array t) (hlocks : meth.locks = false) (hP : va_P D cl (fl_w ad cf n M1) H) (hS : va_S (fl_A ad n) s.heap H locs) (e1 : v = ad qq) (e2 : M1 = MM) (hdg : decode cc pc = .ok (.areturn, 1)) : W p l e R s m args below meth c H locs cells slots (MQ below (va_Qr (fun M' => M' = MM) (fun M' a t => a = ad qq ∧ fl_E D cl ad cf n M' t) (fl_A ad n)) args s cells slots (fl_A ad n)) (F0 m pc ls [.ref v]) :=
  W.aret (v := .ref v) hexec hb hr hrt (Or.inr ⟨_, rfl⟩) (fun t ht hW => ⟨⟨M1, v, rfl, e2, e1, by show va_P _ _ _ t.heap; rw [ht]; exact hP⟩, hS.F ht⟩) hS.2.2 hdg hlocks
end FLX
section FLY
variable {p : Program} {l : Launch} {e : Env} {R : Room} {s : State} {m : MethodId} {args : Array Value} {below : List Frame} {meth : Method} {c : Code} {H : Heap} {locs : List Loc} {cells slots : Nat} {Q : State → Prop}
variable {cc : ByteArray} {pc : Nat} {ls : Array Slot} {rest : List Value} {D : va_G} {H0 : Heap} {ad : Nat → Nat} {cA : Nat → ClassId} {M : fl_M} {q qa : Nat} {f w fv : Nat → Int32}
theorem cp_TR (hexec : p.tables.exec = Jvm.exec) (hb : c.code = cc) (hml : c.maxLocals = ls.size) {own : String} {index : Nat} (hown : s.vm.findClass own = some m.cls) (hlink : (Cond.methodLink own index arraycopyName).before args s = true) (hnat : (Cond.native arraycopyName).before args s = true) (hstat : (Cond.static arraycopyName).before args s = true) (hini : (Cond.initialized "java/lang/System").before args s = true)
    (hK : va_K D cls (xt cA) s) (hi : fl_inj ad 88) (hP : va_P D cls (fl_w ad (xc ad cA) 88 (pTR M q f w)) H) (hS : va_S (fl_A ad 88) H0 H locs) (hq : is_TR q) (ha : is_FROW qa ∧ M.1 qa = fv) (hframes : 1 ≤ R.frames) (hlocals : (rest.map fun v => v.category).sum + (nativeFrameWords "java/lang/System" "arraycopy" 5 + 11) ≤ R.locals) (hdg : decode cc pc = .ok (.invokestatic index, 3))
    (kk : ∀ (H1 : Heap) (locs1 : List Loc), va_P D cls (fl_w ad (xc ad cA) 88 (pTR M q f (va_cpy fv w 0 0 16))) H1 → va_S (fl_A ad 88) H0 H1 locs1 → W p l e R s m args below meth c H1 locs1 cells slots Q (F0 m (pc + 3) ls rest)) : W p l e R s m args below meth c H locs cells slots Q (F0 m pc ls (.int 16 :: .int 0 :: .ref (ad (q + 1)) :: .int 0 :: .ref (ad qa) :: rest)) := by
  have e0 : (pTR M q f w).1 qa = fv := by
    have h1 := hq.1
    have h2 := ha.1.2
    unfold pTR
    dsimp only
    rw [va_up_ne _ _ (by omega), va_up_ne _ _ (by omega)]
    exact ha.2
  refine va_copyi (f := fv) (g := w) hexec hb hml hown hlink hnat hstat hini hK hP (fl_D hi) hS qa (q + 1) 0 0 (fl_get (lt_FROW ha.1) ((kw_FROW ha.1).trans (by rw [e0]))) (fl_get (lt_TR1 hq) ((kw_TRw hq).trans (by rw [pq_TR_w]))) rfl rfl rfl (by decide) (by decide) (by decide) (by decide) (by decide) (fun _ _ => rfl) hframes hlocals hdg (fun H1 locs1 h1 _ h3 => kk H1 locs1 ?_ h3)
  have e1 : (fl_w ad (xc ad cA) 88 (pTR M q f w)).set (q + 1) (ad (q + 1), .inl (cA 0, 16, .inl (va_cpy fv w 0 0 16))) = fl_w ad (xc ad cA) 88 (pTR M q f (va_cpy fv w 0 0 16)) := by
    rw [← kw_TRw (ad := ad) (cA := cA) (f := va_cpy fv w 0 0 16) (g := (pTR M q f w).2 (q + 1)) hq, fl_setI (lt_TR1 hq)]
    unfold pTR
    dsimp only
    rw [bx_uu]
  rw [← e1]
  exact h1
end FLY
