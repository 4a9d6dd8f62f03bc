/-! new int[n][k]: row by row, then the outer array and its rows at the world's end -/
section MN
variable {E : CtlPost} {e : Env} {d : Bool} {acts : List Action}
theorem mn_row {U : State} {cI : ClassId} {kc : Class} {cc : ClassId} {k : Int32} (hkc : U.vm.classes[cI]? = some kc) (hkind : kc.kind = .array cc .int) (hk : ¬ k < 0) (hl : ¬ k.toNatClampNeg > e.platform.arrayLengthLimit) (hh : ¬ k.toNatClampNeg * 4 > e.platform.maxHeapBytes) (h1 : U.heap.size < e.platform.maxCells) (h2 : U.slotsUsed + k.toNatClampNeg ≤ e.platform.maxSlots) {Q : Addr → Pre} (hq : ∀ acts', Q U.heap.size d acts' (U.pushCell { cls := cI, slots := Array.replicate k.toNatClampNeg (.int 0) })) : wp (multianewarray.make cI [k]) Q E e d acts U := by
  unfold multianewarray.make
  simp only [wp_bind', W.ite, hk, if_false, wp_pure', W.theClass, hkc, hkind, Option.some.injEq, exists_eq_left']
  exact W.newArray_of hkc hkind hl hh h1 h2 rfl hq
/-- a loop over 0 .. N by what holds behind i turns -/
theorem mn_for {N : Nat} {f : Nat → PUnit → Sem (ForInStep PUnit)} {I : Nat → State → Prop} {s : State} (h0 : I 0 s)
    (hstep : ∀ i s' d' acts' (Q' : ForInStep PUnit → Pre), i < N → I i s' → (∀ s'' d'' acts'', I (i + 1) s'' → Q' (ForInStep.yield PUnit.unit) d'' acts'' s'') → wp (f i PUnit.unit) Q' E e d' acts' s')
    {Q : PUnit → Pre} (hq : ∀ s' d' acts', I N s' → Q PUnit.unit d' acts' s') : wp (forIn (List.range' 0 N) PUnit.unit f) Q E e d acts s := by
  refine wp_forIn_inv (fun r s' => ∃ i, i + r.length = N ∧ r = List.range' i r.length ∧ I i s') f _ ⟨0, by simp, by simp, h0⟩ ?_ ?_
  · rintro x r s' d' acts' Q' ⟨i, hi, hr, hI⟩ hn
    rw [List.length_cons, List.range'_succ] at hr
    obtain ⟨e1, e2⟩ := List.cons.inj hr
    subst e1
    rw [List.length_cons] at hi
    exact hstep x s' d' acts' Q' (by omega) hI (fun s'' d'' acts'' h => hn s'' d'' acts'' ⟨x + 1, by omega, e2, h⟩)
  · rintro s' d' acts' ⟨i, hi, -, hI⟩
    rw [List.length_nil, Nat.add_zero] at hi
    subst hi
    exact hq s' d' acts' hI
theorem mn_make {U : State} {cI cII : ClassId} {kA : Class} {n k : Int32} {I : Nat → State → Prop} (hkA : U.vm.classes[cII]? = some kA) (hkindA : kA.kind = .array cI (.array .int)) (hn : ¬ n < 0) (hl : ¬ n.toNatClampNeg > e.platform.arrayLengthLimit) (hh : ¬ n.toNatClampNeg * 4 > e.platform.maxHeapBytes) (h1 : U.heap.size < e.platform.maxCells) (h2 : U.slotsUsed + n.toNatClampNeg ≤ e.platform.maxSlots) (hk : ¬ k < 0)
    (h0 : I 0 (U.pushCell { cls := cII, slots := Array.replicate n.toNatClampNeg .null }))
    (hrow : ∀ i s' d' acts' (Q' : Unit → Pre), i < n.toNatClampNeg → I i s' → (∀ s'' d'' acts'', I (i + 1) s'' → Q' () d'' acts'' s'') → wp (do writeLoc U.heap.size i (.ref (← multianewarray.make cI [k]))) Q' E e d' acts' s')
    {Q : Addr → Pre} (hq : ∀ s' d' acts', I n.toNatClampNeg s' → Q U.heap.size d' acts' s') : wp (multianewarray.make cII [n, k]) Q E e d acts U := by
  have hfind : ([k].find? (· < 0)) = none := by simp [hk]
  unfold multianewarray.make
  simp only [wp_bind', W.ite, hn, if_false, wp_pure', W.theClass, hkA, hkindA, Option.some.injEq, exists_eq_left']
  refine W.newArray_of hkA hkindA hl hh h1 h2 rfl (fun acts1 => ?_)
  simp only [hfind]
  rw [ite_self, wp_bind', Std.Legacy.Range.forIn_eq_forIn_range', show ([:n.toNatClampNeg] : Std.Legacy.Range).size = n.toNatClampNeg by simp [Std.Legacy.Range.size]]
  refine mn_for (I := I) h0 (fun i s' d' acts' Q' hi hI hn' => ?_) (fun s' d' acts' hI => ?_)
  · have h9 := hrow i s' d' acts' (fun _ => Q' (ForInStep.yield PUnit.unit)) hi hI hn'
    simp only [wp_bind'] at h9
    simp only [wp_bind', wp_pure']
    exact h9
  · simp only [wp_pure']
    exact hq s' d' acts' hI
end MN
/-- a state with the outer array and i of its rows -/
def mnF (S : State) (cI cII : ClassId) (N K : Nat) : Nat → State
  | 0 => S.pushCell { cls := cII, slots := Array.replicate N .null }
  | i + 1 => ((mnF S cI cII N K i).pushCell { cls := cI, slots := Array.replicate K (.int 0) }).setCell S.heap.size (arrV cII N (fun j => va_rf (if j < i + 1 then some (S.heap.size + 1 + j) else none)))
theorem mnF_all (S : State) (cI cII : ClassId) (N K : Nat) : ∀ i, (mnF S cI cII N K i).vm = S.vm ∧ (mnF S cI cII N K i).slotsUsed = S.slotsUsed + N + i * K ∧ (mnF S cI cII N K i).heap.size = S.heap.size + 1 + i ∧ (mnF S cI cII N K i).heap[S.heap.size]? = some (arrV cII N (fun j => va_rf (if j < i then some (S.heap.size + 1 + j) else none))) ∧ (∀ j, j < i → (mnF S cI cII N K i).heap[S.heap.size + 1 + j]? = some (arrV cI K (fun _ => .int 0))) ∧ ∀ a, a < S.heap.size → (mnF S cI cII N K i).heap[a]? = S.heap[a]?
  | 0 => by
    refine ⟨rfl, by simp [mnF], by simp [mnF], ?_, fun j h => absurd h (Nat.not_lt_zero _), fun a h => State.heap_pushCell_of_lt _ _ h⟩
    show (S.pushCell _).heap[S.heap.size]? = _
    rw [State.heap_pushCell_size, arrV_new]
    refine congrArg some (congrArg (arrV cII N) (funext fun j => ?_))
    simp [va_rf]
  | i + 1 => by
    obtain ⟨a1, a2, a3, a4, a5, a6⟩ := mnF_all S cI cII N K i
    have hlt : S.heap.size < (mnF S cI cII N K i).heap.size := by omega
    have hold : ∀ a, a < (mnF S cI cII N K i).heap.size → a ≠ S.heap.size → (mnF S cI cII N K (i + 1)).heap[a]? = (mnF S cI cII N K i).heap[a]? := fun a h hne => by
      show (((mnF S cI cII N K i).pushCell _).setCell S.heap.size _).heap[a]? = _
      rw [State.heap_setCell_other (Ne.symm hne), State.heap_pushCell_of_lt _ _ h]
    refine ⟨a1, ?_, ?_, ?_, fun j h => ?_, fun a h => (hold a (by omega) (Nat.ne_of_lt h)).trans (a6 a h)⟩
    · show ((mnF S cI cII N K i).pushCell _).slotsUsed = _
      rw [State.slotsUsed_pushCell, a2, Array.size_replicate, Nat.succ_mul]
      omega
    · show (((mnF S cI cII N K i).pushCell _).setCell S.heap.size _).heap.size = _
      simp [State.setCell, a3]
      omega
    · exact State.heap_setCell_self (c := arrV cII N (fun j => va_rf (if j < i then some (S.heap.size + 1 + j) else none))) (by rw [State.heap_pushCell_of_lt _ _ hlt]; exact a4)
    · by_cases e1 : j = i
      · subst e1
        show (((mnF S cI cII N K j).pushCell _).setCell S.heap.size _).heap[S.heap.size + 1 + j]? = _
        rw [State.heap_setCell_other (show S.heap.size ≠ S.heap.size + 1 + j by omega), ← a3, State.heap_pushCell_size, arrV_new]
      · exact (hold _ (by omega) (by omega)).trans (a5 j (by omega))
theorem mnF_top (S : State) (g : JFrame) (cI cII : ClassId) (N K : Nat) : ∀ i, mnF (S.setTop g) cI cII N K i = (mnF S cI cII N K i).setTop g
  | 0 => rfl
  | i + 1 => by
    show ((mnF (S.setTop g) cI cII N K i).pushCell _).setCell _ _ = _
    rw [mnF_top S g cI cII N K i]
    rfl
section MN2
variable {p : Program} {l : Launch} {e : Env} {R : Room} {s : State} {m : MethodId} {args : Array Value} {below : List Frame} {meth : Method} {c : Code} {T : State} {locs : List Loc} {cells slots : Nat}
theorem mnF_stand (X : Stand p l e R s m args below meth c T locs cells slots) (cI cII : ClassId) (N K : Nat) : ∀ i, ∃ L : List Loc, (∀ x ∈ L, x.base = T.heap.size) ∧ Stand p l e R s m args below meth c (mnF T cI cII N K i) (locs ++ L) (cells + 1 + i) (slots + N + i * K)
  | 0 => by
    have h := X.pushed ({ cls := cII, slots := Array.replicate N .null } : Cell)
    rw [show ({ cls := cII, slots := Array.replicate N .null } : Cell).slots.size = N from Array.size_replicate] at h
    refine ⟨[], fun x hx => absurd hx List.not_mem_nil, ?_⟩
    rw [List.append_nil, Nat.zero_mul]
    exact h
  | i + 1 => by
    obtain ⟨L, hL, Y⟩ := mnF_stand X cI cII N K i
    obtain ⟨a1, a2, a3, a4, a5, a6⟩ := mnF_all T cI cII N K i
    have h := Y.pushed ({ cls := cI, slots := Array.replicate K (.int 0) } : Cell)
    rw [show ({ cls := cI, slots := Array.replicate K (.int 0) } : Cell).slots.size = K from Array.size_replicate] at h
    have h2 := h.stored (a := T.heap.size) (by rw [State.heap_pushCell_of_lt _ _ (show T.heap.size < (mnF T cI cII N K i).heap.size by omega)]; exact a4) i (.ref (T.heap.size + 1 + i))
    rw [arrV_store] at h2
    refine ⟨L ++ [⟨T.heap.size, i⟩], fun x hx => ?_, ?_⟩
    · rcases List.mem_append.mp hx with hx | hx
      · exact hL x hx
      · rw [List.mem_singleton.mp hx]
    · rw [← List.append_assoc, Nat.succ_mul, ← Nat.add_assoc (slots + N)]
      have e3 : updV (fun j => va_rf (if j < i then some (T.heap.size + 1 + j) else none)) i (.ref (T.heap.size + 1 + i)) = fun j => va_rf (if j < i + 1 then some (T.heap.size + 1 + j) else none) := by
        funext j
        by_cases e : j = i
        · subst e
          simp [updV, va_rf]
        · by_cases h : j < i
          · simp [updV, e, h, Nat.lt_succ_of_lt h]
          · simp [updV, e, h, show ¬ j < i + 1 by omega]
      rw [e3] at h2
      exact h2
end MN2
theorem ao_spec {s : State} {args : Array Value} (h : (Cond.arrayOver (.array .int)).before args s = true) : ∃ (comp c : ClassId) (k : Class), s.vm.findClass (FieldType.array .int).toString = some comp ∧ s.vm.classes[c]? = some k ∧ k.kind = .array comp (.array .int) ∧ s.vm.findClass ("[" ++ (FieldType.array .int).toString) = some c := by
  unfold Cond.before Cond.holds at h
  simp only [Cond.value] at h
  obtain ⟨comp, hc, h⟩ := Option.bind_eq_some_iff.mp (eq_of_beq h)
  obtain ⟨c, hi, h⟩ := Option.bind_eq_some_iff.mp h
  obtain ⟨k, hk, h⟩ := Option.map_eq_some_iff.mp h
  have hp := (Array.findIdx?_eq_some_iff_getElem.mp hi).2.1
  rw [(Array.getElem?_eq_some_iff.mp hk).2] at hp
  refine ⟨comp, c, k, hc, hk, ?_⟩
  cases hd : k.kind with
  | array component ty =>
    rw [hd] at h hp
    have h2 := Bool.and_eq_true_iff.mp h
    rw [of_decide_eq_true h2.1, eq_of_beq hp]
    exact ⟨rfl, of_decide_eq_true h2.2⟩
  | _ => rw [hd] at h; cases h
section MN5
variable {p : Program} {l : Launch} {e : Env} {R : Room} {s : State} {m : MethodId} {args : Array Value} {below : List Frame} {meth : Method} {c : Code} {T : State} {locs : List Loc} {cells slots : Nat}
theorem mn_stand (X : Stand p l e R s m args below meth c T locs cells slots) (hexec : p.tables.exec = Jvm.exec) {own : String} {index : Nat} (hown : s.vm.findClass own = some m.cls) (hclink : (Cond.classLink own index ("[" ++ (FieldType.array .int).toString)).before args s = true) (hover : (Cond.arrayOver (.array .int)).before args s = true) (harr : (Cond.arrayClass .int).before args s = true)
    {g : JFrame} (hg : g.method = m) (hdg : decode c.code g.pc = .ok (.multianewarray index 2, 4)) {n k : Int32} {rest : List Value} (hstack : g.stack = .int k :: .int n :: rest) (hn : ¬ n < 0) (hk : ¬ k < 0) (hb1 : n.toNatClampNeg * 4 ≤ 536870912) (hb2 : k.toNatClampNeg * 4 ≤ 536870912) (hcells : cells + (1 + n.toNatClampNeg) ≤ R.cells) (hslots : slots + (n.toNatClampNeg + n.toNatClampNeg * k.toNatClampNeg) ≤ R.slots) :
    ∃ (vm₁ : Vm) (cII cI : ClassId), s.vm.findClass ("[" ++ (FieldType.array .int).toString) = some cII ∧ s.vm.findClass (FieldType.array .int).toString = some cI ∧
      Stand p l e R s m args below meth c (mnF (T.setVm vm₁) cI cII n.toNatClampNeg k.toNatClampNeg n.toNatClampNeg) locs (cells + 1 + n.toNatClampNeg) (slots + n.toNatClampNeg + n.toNatClampNeg * k.toNatClampNeg) ∧
      ∀ target, Steps p.tables e below ((mnF (T.setVm vm₁) cI cII n.toNatClampNeg k.toNatClampNeg n.toNatClampNeg).setTop { g with pc := g.pc + 4, stack := .ref T.heap.size :: rest }) target → Steps p.tables e below (T.setTop g) target := by
  subst hg
  obtain ⟨cI, cII, kA, hcI, hkA, hkindA, hcII⟩ := ao_spec hover
  obtain ⟨cI', kC, cc, hcI', hkC, hkindC⟩ := Cond.arrayClass_spec harr
  have e1 : cI' = cI := Option.some.inj (hcI'.symm.trans hcI)
  subst e1
  obtain ⟨c0, hc0, hcl⟩ := Cond.classLink_spec hown hclink e.platform (by rw [X.admits.platform])
  have e2 : c0 = cII := Option.some.inj (hc0.symm.trans hcII)
  subst e2
  obtain ⟨hgv, hw, hrd⟩ := State.classEntry (e := e) X.warmed hcl
  generalize T.vm.noted g.method.cls index (.cls c0) = vm₁ at hgv hw hrd
  obtain ⟨kA1, hkA1, heA⟩ := hw.alike.2.2 _ _ hkA
  obtain ⟨kC1, hkC1, heC⟩ := hw.alike.2.2 _ _ hkC
  have X1 := X.noted hw
  obtain ⟨hr1, hr2⟩ := X.roomAbove hcells hslots
  obtain ⟨L, hL, X2⟩ := mnF_stand X1 cI' c0 n.toNatClampNeg k.toNatClampNeg n.toNatClampNeg
  have hLs : ∀ x ∈ L, s.heap.size ≤ x.base := fun x hx => by
    rw [hL x hx]
    exact X.same.2.1
  refine ⟨vm₁, c0, cI', hcII, hcI, X2.dropFresh hLs, fun target hrest => ?_⟩
  have hl1 : ¬ n.toNatClampNeg > e.platform.arrayLengthLimit := by rw [Launch.admits_arrayLengthLimit X.admits]; omega
  have hl2 : ¬ k.toNatClampNeg > e.platform.arrayLengthLimit := by rw [Launch.admits_arrayLengthLimit X.admits]; omega
  have hh1 : ¬ n.toNatClampNeg * 4 > e.platform.maxHeapBytes := by rw [Launch.admits_maxHeapBytes X.admits]; omega
  have hh2 : ¬ k.toNatClampNeg * 4 > e.platform.maxHeapBytes := by rw [Launch.admits_maxHeapBytes X.admits]; omega
  have hkindA1 : kA1.kind = .array cI' (.array .int) := by rw [heA]; exact hkindA
  have hkindC1 : kC1.kind = .array cc .int := by rw [heC]; exact hkindC
  jvm_step X.here [hexec, hdg]
  simp only [multianewarray.sem, wp_bind', W.resolveClassAt_links (State.method?_setTop g X.here.top) hgv]
  rw [W.popN, if_neg (by decide)]
  refine ⟨g, State.topJava?_setTop' (s := T.setVm vm₁) g X.here.top, [.int n, .int k], rest, rfl, hstack, ?_⟩
  simp only [List.mapM_cons, List.mapM_nil, wp_bind', wp_pure']
  have eS : ((T.setTop g).setVm vm₁).setTop { g with stack := rest } = (T.setVm vm₁).setTop { g with stack := rest } := by
    show ((T.setVm vm₁).setTop g).setTop _ = _
    rw [State.setTop_setTop]
  rw [eS]
  refine mn_make (kA := kA1) (I := fun i S => S = (mnF (T.setVm vm₁) cI' c0 n.toNatClampNeg k.toNatClampNeg i).setTop { g with stack := rest }) hkA1 hkindA1 hn hl1 hh1 (by show T.heap.size < _; omega) (by show T.slotsUsed + _ ≤ _; omega) hk rfl (fun i S d' acts' Q' hi hS hq => ?_) (fun S d' acts' hS => ?_)
  · subst hS
    obtain ⟨a1, a2, a3, a4, a5, a6⟩ := mnF_all (T.setVm vm₁) cI' c0 n.toNatClampNeg k.toNatClampNeg i
    have hmul : i * k.toNatClampNeg + k.toNatClampNeg ≤ n.toNatClampNeg * k.toNatClampNeg := by
      have := Nat.mul_le_mul_right k.toNatClampNeg (show i + 1 ≤ n.toNatClampNeg from hi)
      rw [Nat.succ_mul] at this
      exact this
    have a2 : (mnF (T.setVm vm₁) cI' c0 n.toNatClampNeg k.toNatClampNeg i).slotsUsed = T.slotsUsed + n.toNatClampNeg + i * k.toNatClampNeg := a2
    have a3 : (mnF (T.setVm vm₁) cI' c0 n.toNatClampNeg k.toNatClampNeg i).heap.size = T.heap.size + 1 + i := a3
    simp only [wp_bind']
    refine mn_row (kc := kC1) (cc := cc) (by show (mnF _ _ _ _ _ i).vm.classes[cI']? = _; rw [a1]; exact hkC1) hkindC1 hk hl2 hh2 (by show (mnF _ _ _ _ _ i).heap.size < _; omega) (by show (mnF _ _ _ _ _ i).slotsUsed + _ ≤ _; omega) (fun acts1 => ?_)
    simp only [W.writeLoc]
    have e3 : (arrV c0 n.toNatClampNeg (fun j => va_rf (if j < i then some (T.heap.size + 1 + j) else none))).setSlot i (.ref (T.heap.size + 1 + i)) = arrV c0 n.toNatClampNeg (fun j => va_rf (if j < i + 1 then some (T.heap.size + 1 + j) else none)) := by
      rw [arrV_store]
      refine congrArg (arrV c0 n.toNatClampNeg) (funext fun j => ?_)
      by_cases e9 : j = i
      · subst e9
        simp [updV, va_rf]
      · by_cases h : j < i
        · simp [updV, e9, h, Nat.lt_succ_of_lt h]
        · simp [updV, e9, h, show ¬ j < i + 1 by omega]
    refine ⟨arrV c0 n.toNatClampNeg (fun j => va_rf (if j < i then some (T.heap.size + 1 + j) else none)), ?_, (fun h => by cases h), (by rw [arrV_size]; exact hi), ?_, hq _ _ _ ?_⟩
    · show ((mnF (T.setVm vm₁) cI' c0 n.toNatClampNeg k.toNatClampNeg i).pushCell _).heap[T.heap.size]? = _
      rw [State.heap_pushCell_of_lt _ _ (show T.heap.size < (mnF (T.setVm vm₁) cI' c0 n.toNatClampNeg k.toNatClampNeg i).heap.size by omega)]
      exact a4
    · have hcl9 : (mnF (T.setVm vm₁) cI' c0 n.toNatClampNeg k.toNatClampNeg i).vm.classes[c0]? = some kA1 := by rw [a1]; exact hkA1
      simp [State.fitsSlot, State.slotType?, arrV, hcl9, hkindA1, fits]
    · show (((mnF (T.setVm vm₁) cI' c0 n.toNatClampNeg k.toNatClampNeg i).pushCell _).setCell T.heap.size ((arrV c0 n.toNatClampNeg _).setSlot i (.ref (mnF (T.setVm vm₁) cI' c0 n.toNatClampNeg k.toNatClampNeg i).heap.size))).setTop _ = _
      rw [a3, e3]
      rfl
  · subst hS
    simp only [wp_bind', W.mark, W.pushRef, State.topJava?_setTop' _ X2.here.top, Option.some.injEq, exists_eq_left', State.setTop_setTop, State.heap_setTop]
    intro acts
    simp [jvm, X2.here.top]
    exact hrest
end MN5
def mRows (q N K : Nat) (c : ClassId) : va_W := (List.range N).map (fun i => (q + 1 + i, .inl (c, K, .inl z32)))
def mArr (q N K : Nat) (c c' : ClassId) : va_W := (q, .inl (c', N, .inr (.inr (.inr (.inr (fun i => if i < N then some (q + 1 + i) else none)))))) :: mRows q N K c
section CM
variable {p : Program} {l : Launch} {e : Env} {R : Room} {s : State} {m : MethodId} {args : Array Value} {below : List Frame} {meth : Method} {c : Code} {H : Heap} {locs : List Loc} {cells slots : Nat} {Q : State → Prop}
variable {cc : ByteArray} {pc : Nat} {ls : Array Slot} {rest : List Value} {D : va_G} {cl : List vw_C} {A : Nat → Prop} {tys : List (ClassId × FieldType)} {ws : va_W} {H0 : Heap}
theorem kq_mna (hexec : p.tables.exec = Jvm.exec) (hb : c.code = cc) {own : String} {index : Nat} (hown : s.vm.findClass own = some m.cls) (hclink : (Cond.classLink own index "[[I").before args s = true) (hover : (Cond.arrayOver (.array .int)).before args s = true) (harr : (Cond.arrayClass .int).before args s = true) (hK : va_K D cl tys s) {t0 t1 : Nat} {cI cII : ClassId} (ht0 : tys[t0]? = some (cI, .int)) (ht1 : tys[t1]? = some (cII, .array .int)) (hP : va_P D cl ws H) (hD : va_D A ws) (hS : va_S A H0 H locs) (hA : ∀ q, H0.size ≤ q → A q)
    {n k : Int32} {N K : Nat} (hn : ¬ n < 0) (hk : ¬ k < 0) (hN : n.toNatClampNeg = N) (hM : k.toNatClampNeg = K) (hb1 : N * 4 ≤ 536870912) (hb2 : K * 4 ≤ 536870912) (hcells : cells + (1 + N) ≤ R.cells) (hslots : slots + (N + N * K) ≤ R.slots) (hdg : decode cc pc = .ok (.multianewarray index 2, 4))
    (kk : ∀ (q : Nat) (H1 : Heap), va_P D cl (ws ++ mArr q N K cI cII) H1 → va_D A (ws ++ mArr q N K cI cII) → va_S A H0 H1 locs → W p l e R s m args below meth c H1 locs (cells + 1 + N) (slots + N + N * K) Q (F0 m (pc + 4) ls (.ref q :: rest))) : W p l e R s m args below meth c H locs cells slots Q (F0 m pc ls (.int k :: .int n :: rest)) := by
  subst hN
  subst hM
  intro T hT Xs
  obtain ⟨vm₁, cA, comp, fA, fC, X', step⟩ := mn_stand Xs hexec hown (show (Cond.classLink own index ("[" ++ (FieldType.array .int).toString)).before args s = true from hclink) hover harr (g := F0 m pc ls (.int k :: .int n :: rest)) rfl (by rw [hb]; exact hdg) rfl hn hk hb1 hb2 hcells hslots
  have e1 : cA = cII := Option.some.inj (fA.symm.trans (hK.2 t1 _ ht1).2)
  have e2 : comp = cI := Option.some.inj (fC.symm.trans (hK.2 t0 _ ht0).2)
  subst e1
  subst e2
  obtain ⟨-, -, f1, f2, hrow, hold⟩ := mnF_all (T.setVm vm₁) comp cA n.toNatClampNeg k.toNatClampNeg n.toNatClampNeg
  generalize hF : mnF (T.setVm vm₁) comp cA n.toNatClampNeg k.toNatClampNeg n.toNatClampNeg = F at X' step f1 f2 hrow hold
  have hTh : (T.setVm vm₁).heap = H := hT
  rw [hTh] at f1 f2 hrow hold
  have hrow : ∀ j : Nat, j < n.toNatClampNeg → F.heap[H.size + 1 + j]? = some (vp_cell comp (k.toNatClampNeg, .inl z32)) := hrow
  have f2 : F.heap[H.size]? = some (vp_cell cA (n.toNatClampNeg, .inr (.inr (.inr (.inr (fun i => if i < n.toNatClampNeg then some (H.size + 1 + i) else none)))))) := f2
  have hlt : ∀ (j : Nat) (x : Nat × va_E), ws[j]? = some x → x.1 < H.size := fun j x hx => (hP j x hx).lt
  have hmem : ∀ (j : Nat) (x : Nat × va_E), (mArr H.size n.toNatClampNeg k.toNatClampNeg comp cA)[j]? = some x → x.1 = H.size + j ∧ va_at D cl x F.heap := fun j x hx => by
    cases j with
    | zero =>
      have := Option.some.inj hx
      subst this
      exact ⟨rfl, f2⟩
    | succ j =>
      have hx : (mRows H.size n.toNatClampNeg k.toNatClampNeg comp)[j]? = some x := hx
      unfold mRows at hx
      rw [List.getElem?_map] at hx
      cases hj : (List.range n.toNatClampNeg)[j]? with
      | none => rw [hj] at hx; cases hx
      | some y =>
        rw [hj] at hx
        have := Option.some.inj hx
        subst this
        obtain ⟨g1, g2⟩ := List.getElem?_eq_some_iff.mp hj
        rw [List.getElem_range] at g2
        rw [List.length_range] at g1
        subst g2
        exact ⟨by show H.size + 1 + j = H.size + (j + 1); omega, hrow j g1⟩
  have hS1 : va_S A H0 F.heap locs := ⟨Nat.le_trans hS.1 (by rw [f1]; omega), fun x h1 h2 => (hold x (Nat.lt_of_lt_of_le h1 hS.1)).trans (hS.2.1 x h1 h2), hS.2.2⟩
  obtain ⟨t', a1, b1⟩ := kk H.size F.heap ((hP.kept (fun j x hx => hold x.1 (hlt j x hx))).app (fun j x hx => (hmem j x hx).2)) ⟨fun i j p q hi hj c => by
    rw [List.getElem?_append] at hi hj
    split at hi <;> split at hj
    · exact hD.1 i j p q hi hj c
    · have h1 := hlt i p hi
      have h2 := (hmem _ q hj).1
      omega
    · have h1 := hlt j q hj
      have h2 := (hmem _ p hi).1
      omega
    · have h1 := (hmem _ p hi).1
      have h2 := (hmem _ q hj).1
      omega, fun j x hx => by
    rw [List.getElem?_append] at hx
    split at hx
    · exact hD.2 j x hx
    · rw [(hmem _ x hx).1]
      exact hA _ (Nat.le_trans hS.1 (Nat.le_add_right _ _))⟩ hS1 F rfl X'
  refine ⟨t', step t' ?_, b1⟩
  rw [hT]
  exact a1
end CM
