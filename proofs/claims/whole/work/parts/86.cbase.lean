/-! constructors: the number of an array's kind; a call of a constructor upon the world's last cell -/
theorem kq_same {D : va_G} {cl : List vw_C} {tys : List (ClassId × FieldType)} {s : State} {k j : Nat} {c1 c2 : ClassId} {ty : FieldType} (hK : va_K D cl tys s) (h1 : tys[k]? = some (c1, ty)) (h2 : tys[j]? = some (c2, ty)) : c1 = c2 := by
  have a := (hK.2 k _ h1).2
  have b := (hK.2 j _ h2).2
  dsimp only at a b
  cases ty with
  | object C =>
    obtain ⟨_, _, _, _, _, a4⟩ := a
    obtain ⟨_, _, _, _, _, b4⟩ := b
    exact Option.some.inj (a4.symm.trans b4)
  | _ => exact Option.some.inj (Eq.trans (Eq.symm a) b)
theorem kq_app {α : Type} {l : List α} {x y : α} {k : Nat} (h : l[k]? = some y) : (l ++ [x])[k]? = some y := by
  rw [List.getElem?_append_left (List.getElem?_eq_some_iff.mp h).1]
  exact h
theorem kq_end {α : Type} {l r : List α} {x : α} : (l ++ x :: r)[l.length]? = some x := by
  rw [List.getElem?_append_right (Nat.le_refl _), Nat.sub_self]
  rfl
theorem kq_join {A0 : Nat → Prop} {D : va_G} {cl : List vw_C} {w w1 : va_W} {h : Nat} {e : va_E} {H H1 : Heap} (hP : va_P D cl (w ++ [(h, e)]) H) (hD : va_D A0 (w ++ [(h, e)]))
    (hk : ∀ q : Nat, q < H.size → ¬ va_A [(h, e)] H.size q → H1[q]? = H[q]?) (hF : ∀ q, va_A [(h, e)] H.size q → A0 q) (hP1 : va_P D cl w1 H1) (hD1 : va_D (va_A [(h, e)] H.size) w1) : va_P D cl (w ++ w1) H1 ∧ va_D A0 (w ++ w1) := by
  have hw : ∀ (k : Nat) (x : Nat × va_E), w[k]? = some x → (w ++ [(h, e)])[k]? = some x := fun k x hx => kq_app hx
  have hlt : ∀ (k : Nat) (x : Nat × va_E), w[k]? = some x → x.1 < H.size := fun k x hx => (hP k x (hw k x hx)).lt
  have hne : ∀ (k : Nat) (x : Nat × va_E), w[k]? = some x → x.1 ≠ h := fun k x hx c => by
    have h1 := hD.1 k w.length x (h, e) (hw k x hx) kq_end c
    have h2 := (List.getElem?_eq_some_iff.mp hx).1
    omega
  have hnA : ∀ (k : Nat) (x : Nat × va_E), w[k]? = some x → ¬ va_A [(h, e)] H.size x.1 := fun k x hx c => by
    rcases c with ⟨j, e', c⟩ | c
    · have hj : j < 1 := (List.getElem?_eq_some_iff.mp c).1
      rw [show j = 0 by omega] at c
      exact hne k x hx (congrArg Prod.fst (Option.some.inj c)).symm
    · have := hlt k x hx
      omega
  have hP0 : va_P D cl w H := fun k x hx => hP k x (hw k x hx)
  refine ⟨(hP0.kept (fun k x hx => hk x.1 (hlt k x hx) (hnA k x hx))).app hP1, fun i j p q hi hj c => ?_, fun k q hq => ?_⟩
  · rw [List.getElem?_append] at hi hj
    split at hi <;> split at hj
    · exact hD.1 i j p q (hw i p hi) (hw j q hj) c
    · exact absurd (by rw [c]; exact hD1.2 _ q hj) (hnA i p hi)
    · exact absurd (by rw [← c]; exact hD1.2 _ p hi) (hnA j q hj)
    · have := hD1.1 _ _ p q hi hj c
      omega
  · rw [List.getElem?_append] at hq
    split at hq
    · exact hD.2 k q (hw k q hq)
    · exact hF _ (hD1.2 _ q hq)
theorem kq_free {A0 : Nat → Prop} {w : va_W} {h : Nat} {e : va_E} {H0 H : Heap} {locs : List Loc} (hD : va_D A0 (w ++ [(h, e)])) (hS : va_S A0 H0 H locs) (hA : ∀ q, H0.size ≤ q → A0 q) : ∀ q, va_A [(h, e)] H.size q → A0 q := by
  intro q c
  rcases c with ⟨j, e', c⟩ | c
  · have hj : j < 1 := (List.getElem?_eq_some_iff.mp c).1
    rw [show j = 0 by omega] at c
    have := hD.2 w.length (h, e) kq_end
    have e1 : h = q := congrArg Prod.fst (Option.some.inj c)
    rw [← e1]
    exact this
  · exact hA q (Nat.le_trans hS.1 c)
section CB
variable {p : Program} {l : Launch} {e : Env} {R : Room} {s : State} {m : MethodId} {args : Array Value} {below : List Frame} {meth : Method} {c : Code} {H : Heap} {locs : List Loc} {cells slots : Nat} {Q : State → Prop}
variable {cc : ByteArray} {pc : Nat} {ls : Array Slot} {rest : List Value} {D : va_G} {cl : List vw_C} {A : Nat → Prop} {tys : List (ClassId × FieldType)} {ws : va_W} {H0 : Heap}
theorem kq_newa (hexec : p.tables.exec = Jvm.exec) (hb : c.code = cc) {atype : ArrayType} (harr : (Cond.arrayClass (newarray.typeOf atype)).before args s = true) {ty : FieldType} (hty : newarray.typeOf atype = ty) (hK : va_K D cl tys s) {t0 : Nat} {cA : ClassId} (ht : tys[t0]? = some (cA, ty)) (hP : va_P D cl ws H) (hD : va_D A ws) (hS : va_S A H0 H locs) (hA : ∀ q, H0.size ≤ q → A q)
    {n : Int32} {N' : Nat} {a0 : vp_A} (ha : ∀ cA : ClassId, vp_cell cA a0 = arrV cA N' (fun _ => defaultValue ty)) (hn : ¬ n < 0) (hN : n.toNatClampNeg = N') (hbytes : N' * componentBytes ty ≤ 536870912) (hcells : cells + 1 ≤ R.cells) (hslots : slots + N' ≤ R.slots) (hdg : decode cc pc = .ok (.newarray atype, 2))
    (kk : ∀ (q : Nat) (H1 : Heap), va_P D cl (ws ++ [(q, .inl (cA, a0))]) H1 → va_D A (ws ++ [(q, .inl (cA, a0))]) → va_S A H0 H1 locs →
      W p l e R s m args below meth c H1 locs (cells + 1) (slots + N') Q (F0 m (pc + 2) ls (.ref q :: rest))) : W p l e R s m args below meth c H locs cells slots Q (F0 m pc ls (.int n :: rest)) := by
  refine va_newa hexec hb harr hty hK hP hD hS hA ha hn hN hbytes hcells hslots hdg (fun q cB H1 hK1 hP1 hD1 hS1 => ?_)
  have e1 : cB = cA := kq_same hK1 (k := tys.length) (j := t0) kq_end (kq_app ht)
  subst e1
  exact kk q H1 hP1 hD1 hS1
theorem kq_newq (hexec : p.tables.exec = Jvm.exec) (hb : c.code = cc) {own C : String} {index : Nat} (hown : s.vm.findClass own = some m.cls) (hclink : (Cond.classLink own index C).before args s = true) (hover : va_AO C s) (hK : va_K D cl tys s) {t0 : Nat} {cA : ClassId} (ht : tys[t0]? = some (cA, .object C)) (hP : va_P D cl ws H) (hD : va_D A ws) (hS : va_S A H0 H locs) (hA : ∀ q, H0.size ≤ q → A q)
    {n : Int32} {N' : Nat} (hn : ¬ n < 0) (hN : n.toNatClampNeg = N') (hbytes : N' * 4 ≤ 536870912) (hcells : cells + 1 ≤ R.cells) (hslots : slots + N' ≤ R.slots) (hdg : decode cc pc = .ok (.anewarray index, 3))
    (kk : ∀ (q : Nat) (H1 : Heap), va_P D cl (ws ++ [(q, .inl (cA, N', .inr (.inr (.inr (.inr (fun _ => none))))))]) H1 → va_D A (ws ++ [(q, .inl (cA, N', .inr (.inr (.inr (.inr (fun _ => none))))))]) → va_S A H0 H1 locs →
      W p l e R s m args below meth c H1 locs (cells + 1) (slots + N') Q (F0 m (pc + 3) ls (.ref q :: rest))) : W p l e R s m args below meth c H locs cells slots Q (F0 m pc ls (.int n :: rest)) := by
  refine va_newq hexec hb hown hclink hover hK hP hD hS hA hn hN hbytes hcells hslots hdg (fun q cB H1 hK1 hP1 hD1 hS1 => ?_)
  have e1 : cB = cA := kq_same hK1 (k := tys.length) (j := t0) kq_end (kq_app ht)
  subst e1
  exact kk q H1 hP1 hD1 hS1
end CB
/-- the words of arrays of objects and of arrays -/
def kO (U : State) : Prop := (Cond.arrayOver (.object "FarLink$Transaction")).before #[] U = true ∧ (Cond.arrayOver (.object "FarLink$CraftRecord")).before #[] U = true ∧ (Cond.arrayOver (.array .int)).before #[] U = true
theorem kO_one {ty : FieldType} {s U : State} (hvm : s.vm.Alike U.vm) (h : (Cond.arrayOver ty).before #[] s = true) : (Cond.arrayOver ty).before #[] U = true := by
  have h1 : (Cond.arrayOver ty).before #[] (s.setVm U.vm) = true := by rw [Cond.arrayOver_setVmC hvm]; exact h
  exact h1
theorem kO.moved {s U : State} (hvm : s.vm.Alike U.vm) (h : kO s) : kO U := ⟨kO_one hvm h.1, kO_one hvm h.2.1, kO_one hvm h.2.2⟩
/-- a constructor's start: the new cell alone, the tables -/
def cS (D : va_G) (tys : List (ClassId × FieldType)) (MN : fl_MN) (sz h0 : Nat) (e : va_E) (U : State) : Prop := U.heap.size = sz ∧ va_P D cls [(h0, e)] U.heap ∧ va_K D cls tys U ∧ va_D (fun _ => True) [(h0, e)] ∧ fl_N [] MN U ∧ kO U
/-- its end: a world -/
def cEn (D : va_G) (A : Nat → Prop) (w : va_W) (t : State) : Prop := va_P D cls w t.heap ∧ va_D A w
theorem cS.blind {D : va_G} {tys : List (ClassId × FieldType)} {MN : fl_MN} {sz h0 : Nat} {e : va_E} {av : List Value} : FrameBlind (va_Pc av (cS D tys MN sz h0 e)) := fun a U g mk q => by
  obtain ⟨q0, q1, qP, qK, qD, qN, qO⟩ := q
  exact ⟨q0, q1, qP, va_K.moved (u := U) (U := U.calling g mk a) (Vm.Alike.refl U.vm) qK, qD, qN.blind, qO.moved (Vm.Alike.refl U.vm)⟩
theorem cS.pre {D : va_G} {tys : List (ClassId × FieldType)} {MN : fl_MN} {h0 : Nat} {e : va_E} {As : List Value} {s : State} {H : Heap} {w : va_W} (hK : va_K D cls tys s) (hN : fl_N [] MN s) (hO : kO s) (hP : va_P D cls (w ++ [(h0, e)]) H) : PreS s H (va_Pc As (cS D tys MN H.size h0 e)) As := by
  refine ⟨cS.blind, fun U hU hW => ⟨rfl, by rw [hU], fun k x hx => ?_, va_K.moved hW.alike hK, ⟨fun i j p q hi hj _ => ?_, fun _ _ _ => trivial⟩, hN.on hW, hO.moved hW.alike⟩⟩
  · have hj : k < 1 := (List.getElem?_eq_some_iff.mp hx).1
    rw [show k = 0 by omega] at hx
    rw [hU, ← Option.some.inj hx]
    exact hP w.length _ kq_end
  · have h1 : i < 1 := (List.getElem?_eq_some_iff.mp hi).1
    have h2 : j < 1 := (List.getElem?_eq_some_iff.mp hj).1
    omega
section CB2
variable {p : Program} {l : Launch} {e : Env} {R : Room} {s : State} {m : MethodId} {args : Array Value} {below : List Frame} {meth : Method} {c : Code} {H : Heap} {locs : List Loc} {cells slots mc ms : Nat} {Q : State → Prop}
variable {pc : Nat} {ls : Array Slot} {rest st0 : List Value} {a : Array Value} {D : va_G} {A : Nat → Prop} {w : va_W} {H0 : Heap}
/-- behind a call of a constructor: the caller's world, and the callee's for its last cell -/
theorem kq_init {post : va_W → Prop} {h : Nat} {e0 : va_E} (hr : va_Run p l e R s m args below meth c H locs cells slots mc ms (F0 m pc ls st0) rest (va_Qv post (cEn D (va_A [(h, e0)] H.size)) (va_A [(h, e0)] H.size) a) (va_A [(h, e0)] H.size)) (hP : va_P D cls (w ++ [(h, e0)]) H) (hD : va_D A (w ++ [(h, e0)])) (hS : va_S A H0 H locs) (hA : ∀ q, H0.size ≤ q → A q)
    (kk : ∀ (w1 : va_W) (H1 : Heap) (locs1 : List Loc), post w1 → va_P D cls (w ++ w1) H1 → va_D A (w ++ w1) → va_S A H0 H1 locs1 → W p l e R s m args below meth c H1 locs1 (cells + mc) (slots + ms) Q (F0 m (pc + 3) ls rest)) : W p l e R s m args below meth c H locs cells slots Q (F0 m pc ls st0) := by
  have hF := kq_free hD hS hA
  refine va_callv hr hS (fun q _ c => hF q c) hF (fun w1 t H1 locs1 ht hvm hpost hB hz hk hS1 => ?_)
  obtain ⟨hP1, hD1⟩ := hB
  rw [ht] at hP1
  obtain ⟨hP2, hD2⟩ := kq_join hP hD hk hF hP1 hD1
  exact kk w1 H1 locs1 hpost hP2 hD2 hS1
end CB2
