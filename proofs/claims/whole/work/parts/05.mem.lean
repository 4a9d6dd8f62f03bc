/-! flat memory: the ints and the longs of numbered cells; a world of n cells, cell k at the address ad k, what it holds by cf -/
abbrev fl_M : Type := (Nat → Nat → Int32) × (Nat → Nat → Int64)
def fl_i (M : fl_M) (q j : Nat) (v : Int32) : fl_M := (va_up M.1 q (upd (M.1 q) j v), M.2)
def fl_l (M : fl_M) (q j : Nat) (v : Int64) : fl_M := (M.1, va_up M.2 q (vp_updL (M.2 q) j v))
abbrev fl_C : Type := Nat → (Nat → Int32) → (Nat → Int64) → va_E
def fl_w (ad : Nat → Nat) (cf : fl_C) (n : Nat) (M : fl_M) : va_W := (List.range n).map (fun k => (ad k, cf k (M.1 k) (M.2 k)))
def fl_inj (ad : Nat → Nat) (n : Nat) : Prop := ∀ i j : Nat, i < n → j < n → ad i = ad j → i = j
def fl_A (ad : Nat → Nat) (n : Nat) : Nat → Prop := fun q => ∃ k, k < n ∧ q = ad k
theorem fl_get {ad : Nat → Nat} {cf : fl_C} {n q : Nat} {M : fl_M} {e : va_E} (h : q < n) (hc : cf q (M.1 q) (M.2 q) = e) : (fl_w ad cf n M)[q]? = some (ad q, e) := by
  simp [fl_w, List.getElem?_range h, hc]
theorem fl_of {ad : Nat → Nat} {cf : fl_C} {n k : Nat} {M : fl_M} {z : Nat × va_E} (h : (fl_w ad cf n M)[k]? = some z) : k < n ∧ z = (ad k, cf k (M.1 k) (M.2 k)) := by
  have hk : k < n := by
    have := (List.getElem?_eq_some_iff.mp h).1
    simpa [fl_w] using this
  refine ⟨hk, ?_⟩
  rw [fl_get hk rfl] at h
  exact (Option.some.inj h).symm
theorem fl_len {ad : Nat → Nat} {cf : fl_C} {n : Nat} {M : fl_M} : (fl_w ad cf n M).length = n := by simp [fl_w]
theorem fl_set {ad : Nat → Nat} {cf : fl_C} {n q : Nat} {M : fl_M} {f : Nat → Int32} {g : Nat → Int64} (h : q < n) : (fl_w ad cf n M).set q (ad q, cf q f g) = fl_w ad cf n (va_up M.1 q f, va_up M.2 q g) := by
  apply List.ext_getElem?
  intro j
  by_cases hj : j = q
  · subst hj
    rw [List.getElem?_set_self (by rw [fl_len]; exact h), fl_get (M := (va_up M.1 j f, va_up M.2 j g)) h rfl]
    dsimp only
    rw [va_up_self, va_up_self]
  · rw [List.getElem?_set_ne (Ne.symm hj)]
    by_cases hn : j < n
    · rw [fl_get hn rfl, fl_get (M := (va_up M.1 q f, va_up M.2 q g)) hn rfl]
      dsimp only
      rw [va_up_ne _ _ hj, va_up_ne _ _ hj]
    · rw [List.getElem?_eq_none (by rw [fl_len]; omega), List.getElem?_eq_none (by rw [fl_len]; omega)]
theorem fl_up_id {α : Type} (f : Nat → α) (q : Nat) : va_up f q (f q) = f := by
  funext j
  by_cases h : j = q
  · subst h; rw [va_up_self]
  · rw [va_up_ne _ _ h]
theorem fl_setI {ad : Nat → Nat} {cf : fl_C} {n q : Nat} {M : fl_M} {f : Nat → Int32} (h : q < n) : (fl_w ad cf n M).set q (ad q, cf q f (M.2 q)) = fl_w ad cf n (va_up M.1 q f, M.2) := by
  rw [fl_set h, fl_up_id]
theorem fl_setL {ad : Nat → Nat} {cf : fl_C} {n q : Nat} {M : fl_M} {g : Nat → Int64} (h : q < n) : (fl_w ad cf n M).set q (ad q, cf q (M.1 q) g) = fl_w ad cf n (M.1, va_up M.2 q g) := by
  rw [fl_set h, fl_up_id]
theorem fl_D {ad : Nat → Nat} {cf : fl_C} {n : Nat} {M : fl_M} (hi : fl_inj ad n) : va_D (fl_A ad n) (fl_w ad cf n M) := by
  refine ⟨fun i j x y hx hy e => ?_, fun k z hz => ?_⟩
  · obtain ⟨h1, rfl⟩ := fl_of hx
    obtain ⟨h2, rfl⟩ := fl_of hy
    exact hi i j h1 h2 e
  · obtain ⟨h1, rfl⟩ := fl_of hz
    exact ⟨k, h1, rfl⟩
section FLR
variable {p : Program} {l : Launch} {e : Env} {R : Room} {s : State} {m : MethodId} {args : Array Value} {below : List Frame} {meth : Method} {c : Code} {H : Heap} {locs : List Loc} {cells slots : Nat} {Q : State → Prop}
variable {cc : ByteArray} {pc : Nat} {ls : Array Slot} {rest : List Value} {D : va_G} {cl : List vw_C} {tys : List (ClassId × FieldType)} {H0 : Heap} {ad : Nat → Nat} {cf : fl_C} {n : Nat} {M : fl_M}
/-- a field of a numbered cell: read -/
theorem fl_g (hexec : p.tables.exec = Jvm.exec) (hb : c.code = cc) {own ref C : String} {T : u_T} {N ci index : Nat} {Ts : List Cond} (hts : ∀ w ∈ Ts, w.before args s = true) (hin : ∀ w ∈ u_ws C T N, w ∈ Ts) (hown : s.vm.findClass own = some m.cls) (hK : va_K D cl tys s) (hP : va_P D cl (fl_w ad cf n M) H) {q : Nat} (hq : q < n) {fs : List Value} (hc : cf q (M.1 q) (M.2 q) = .inr (ci, fs)) (hcl : cl[ci]? = some (C, T, N)) (k : Nat) (hk : k < N) (hlink : (Cond.fieldLink own index ref (T k).2.1 (T k).2.2.1).before args s = true) (href : ref = (T k).1) {v : Value} (hv : fs[k]? = some v) (hdg : decode cc pc = .ok (.getfield index, 3)) (kk : W p l e R s m args below meth c H locs cells slots Q (F0 m (pc + 3) ls (v :: rest))) : W p l e R s m args below meth c H locs cells slots Q (F0 m pc ls (.ref (ad q) :: rest)) :=
  va_get hexec hb hts hin hown hK hP q (fl_get hq hc) hcl k hk hlink (fun x h => by rw [href]; exact h) hv hdg kk
/-- the same of a nest mate -/
theorem fl_gN (hexec : p.tables.exec = Jvm.exec) (hb : c.code = cc) {own ref C host : String} {T : u_T} {N ci index : Nat} {Ts : List Cond} (hts : ∀ w ∈ Ts, w.before args s = true) (hin : ∀ w ∈ u_ws C T N, w ∈ Ts) (hown : s.vm.findClass own = some m.cls) (hK : va_K D cl tys s) (hP : va_P D cl (fl_w ad cf n M) H) {q : Nat} (hq : q < n) {fs : List Value} (hc : cf q (M.1 q) (M.2 q) = .inr (ci, fs)) (hcl : cl[ci]? = some (C, T, N)) (k : Nat) (hk : k < N) (hlink : (Cond.fieldLinkNest own index ref (T k).2.1 (T k).2.2.1 host).before args s = true) (href : ref = (T k).1) {v : Value} (hv : fs[k]? = some v) (hdg : decode cc pc = .ok (.getfield index, 3)) (kk : W p l e R s m args below meth c H locs cells slots Q (F0 m (pc + 3) ls (v :: rest))) : W p l e R s m args below meth c H locs cells slots Q (F0 m pc ls (.ref (ad q) :: rest)) :=
  va_getN hexec hb hts hin hown hK hP q (fl_get hq hc) hcl k hk hlink (fun x h => by rw [href]; exact h) hv hdg kk
/-- an int (or boolean) field is written -/
theorem fl_pI (hexec : p.tables.exec = Jvm.exec) (hb : c.code = cc) {own ref C : String} {T : u_T} {N ci index : Nat} {Ts : List Cond} (hts : ∀ w ∈ Ts, w.before args s = true) (hin : ∀ w ∈ u_ws C T N, w ∈ Ts) (ty0 : Nat → FieldType) (hty : ∀ k, k < N → parseFieldDescriptor (T k).2.2.1 = some (ty0 k)) (hnm : ∀ a, a < N → ∀ b, b < N → a ≠ b → (T a).2.1 ≠ (T b).2.1) (hown : s.vm.findClass own = some m.cls) (hK : va_K D cl tys s) (hi : fl_inj ad n) (hP : va_P D cl (fl_w ad cf n M) H) (hS : va_S (fl_A ad n) H0 H locs) {q : Nat} (hq : q < n) {fs : List Value} (hc : cf q (M.1 q) (M.2 q) = .inr (ci, fs)) (hcl : cl[ci]? = some (C, T, N)) (k : Nat) (hk : k < N) (hlink : (Cond.fieldLink own index ref (T k).2.1 (T k).2.2.1).before args s = true) (href : ref = (T k).1) (hfin : (T k).2.2.2 = false) {ty : FieldType} {v : Int32} (hd : parseFieldDescriptor (T k).2.2.1 = some ty) (hn : narrow ty (.int v) = .int v) (hfit : fits ty (.int v) = true) (hl : k < fs.length) (hset : cf q (upd (M.1 q) k v) (M.2 q) = .inr (ci, fs.set k (.int v))) (hdg : decode cc pc = .ok (.putfield index, 3))
    (kk : ∀ (H1 : Heap) (locs1 : List Loc), va_P D cl (fl_w ad cf n (fl_i M q k v)) H1 → va_S (fl_A ad n) H0 H1 locs1 → W p l e R s m args below meth c H1 locs1 cells slots Q (F0 m (pc + 3) ls rest)) : W p l e R s m args below meth c H locs cells slots Q (F0 m pc ls (.int v :: .ref (ad q) :: rest)) := by
  refine va_put hexec hb hts hin ty0 hty hnm hown hK hP (fl_D hi) hS q (fl_get hq hc) hcl k hk hlink (fun x h => by rw [href]; exact h) hfin hd hn hfit hl hdg (fun H1 locs1 h1 _ h3 => kk H1 locs1 ?_ h3)
  rw [← hset, fl_setI hq] at h1
  exact h1
theorem fl_pIN (hexec : p.tables.exec = Jvm.exec) (hb : c.code = cc) {own ref C host : String} {T : u_T} {N ci index : Nat} {Ts : List Cond} (hts : ∀ w ∈ Ts, w.before args s = true) (hin : ∀ w ∈ u_ws C T N, w ∈ Ts) (ty0 : Nat → FieldType) (hty : ∀ k, k < N → parseFieldDescriptor (T k).2.2.1 = some (ty0 k)) (hnm : ∀ a, a < N → ∀ b, b < N → a ≠ b → (T a).2.1 ≠ (T b).2.1) (hown : s.vm.findClass own = some m.cls) (hK : va_K D cl tys s) (hi : fl_inj ad n) (hP : va_P D cl (fl_w ad cf n M) H) (hS : va_S (fl_A ad n) H0 H locs) {q : Nat} (hq : q < n) {fs : List Value} (hc : cf q (M.1 q) (M.2 q) = .inr (ci, fs)) (hcl : cl[ci]? = some (C, T, N)) (k : Nat) (hk : k < N) (hlink : (Cond.fieldLinkNest own index ref (T k).2.1 (T k).2.2.1 host).before args s = true) (href : ref = (T k).1) (hfin : (T k).2.2.2 = false) {ty : FieldType} {v : Int32} (hd : parseFieldDescriptor (T k).2.2.1 = some ty) (hn : narrow ty (.int v) = .int v) (hfit : fits ty (.int v) = true) (hl : k < fs.length) (hset : cf q (upd (M.1 q) k v) (M.2 q) = .inr (ci, fs.set k (.int v))) (hdg : decode cc pc = .ok (.putfield index, 3))
    (kk : ∀ (H1 : Heap) (locs1 : List Loc), va_P D cl (fl_w ad cf n (fl_i M q k v)) H1 → va_S (fl_A ad n) H0 H1 locs1 → W p l e R s m args below meth c H1 locs1 cells slots Q (F0 m (pc + 3) ls rest)) : W p l e R s m args below meth c H locs cells slots Q (F0 m pc ls (.int v :: .ref (ad q) :: rest)) := by
  refine va_putN hexec hb hts hin ty0 hty hnm hown hK hP (fl_D hi) hS q (fl_get hq hc) hcl k hk hlink (fun x h => by rw [href]; exact h) hfin hd hn hfit hl hdg (fun H1 locs1 h1 _ h3 => kk H1 locs1 ?_ h3)
  rw [← hset, fl_setI hq] at h1
  exact h1
/-- a long field is written -/
theorem fl_pL (hexec : p.tables.exec = Jvm.exec) (hb : c.code = cc) {own ref C : String} {T : u_T} {N ci index : Nat} {Ts : List Cond} (hts : ∀ w ∈ Ts, w.before args s = true) (hin : ∀ w ∈ u_ws C T N, w ∈ Ts) (ty0 : Nat → FieldType) (hty : ∀ k, k < N → parseFieldDescriptor (T k).2.2.1 = some (ty0 k)) (hnm : ∀ a, a < N → ∀ b, b < N → a ≠ b → (T a).2.1 ≠ (T b).2.1) (hown : s.vm.findClass own = some m.cls) (hK : va_K D cl tys s) (hi : fl_inj ad n) (hP : va_P D cl (fl_w ad cf n M) H) (hS : va_S (fl_A ad n) H0 H locs) {q : Nat} (hq : q < n) {fs : List Value} (hc : cf q (M.1 q) (M.2 q) = .inr (ci, fs)) (hcl : cl[ci]? = some (C, T, N)) (k : Nat) (hk : k < N) (hlink : (Cond.fieldLink own index ref (T k).2.1 (T k).2.2.1).before args s = true) (href : ref = (T k).1) (hfin : (T k).2.2.2 = false) {v : Int64} (hd : parseFieldDescriptor (T k).2.2.1 = some .long) (hl : k < fs.length) (hset : cf q (M.1 q) (vp_updL (M.2 q) k v) = .inr (ci, fs.set k (.long v))) (hdg : decode cc pc = .ok (.putfield index, 3))
    (kk : ∀ (H1 : Heap) (locs1 : List Loc), va_P D cl (fl_w ad cf n (fl_l M q k v)) H1 → va_S (fl_A ad n) H0 H1 locs1 → W p l e R s m args below meth c H1 locs1 cells slots Q (F0 m (pc + 3) ls rest)) : W p l e R s m args below meth c H locs cells slots Q (F0 m pc ls (.long v :: .ref (ad q) :: rest)) := by
  refine va_put hexec hb hts hin ty0 hty hnm hown hK hP (fl_D hi) hS q (fl_get hq hc) hcl k hk hlink (fun x h => by rw [href]; exact h) hfin hd rfl rfl hl hdg (fun H1 locs1 h1 _ h3 => kk H1 locs1 ?_ h3)
  rw [← hset, fl_setL hq] at h1
  exact h1
/-- array elements -/
theorem fl_iald (hexec : p.tables.exec = Jvm.exec) (hb : c.code = cc) (hK : va_K D cl tys s) (hP : va_P D cl (fl_w ad cf n M) H) {q : Nat} (hq : q < n) (t0 : Nat) {cA : ClassId} {N : Nat} (hc : cf q (M.1 q) (M.2 q) = .inl (cA, N, .inl (M.1 q))) (ht : tys[t0]? = some (cA, .int)) {i : Int32} (hin : vp_in i N) (hdg : decode cc pc = .ok (.iaload, 1)) (kk : W p l e R s m args below meth c H locs cells slots Q (F0 m (pc + 1) ls (.int (M.1 q i.toNatClampNeg) :: rest))) : W p l e R s m args below meth c H locs cells slots Q (F0 m pc ls (.int i :: .ref (ad q) :: rest)) :=
  va_iald hexec hb hK hP q t0 (fl_get hq hc) ht hin hdg kk
theorem fl_zald (hexec : p.tables.exec = Jvm.exec) (hb : c.code = cc) (hK : va_K D cl tys s) (hP : va_P D cl (fl_w ad cf n M) H) {q : Nat} (hq : q < n) (t0 : Nat) {cA : ClassId} {N : Nat} (hc : cf q (M.1 q) (M.2 q) = .inl (cA, N, .inl (M.1 q))) (ht : tys[t0]? = some (cA, .boolean)) {i : Int32} (hin : vp_in i N) (hdg : decode cc pc = .ok (.baload, 1)) (kk : W p l e R s m args below meth c H locs cells slots Q (F0 m (pc + 1) ls (.int (M.1 q i.toNatClampNeg) :: rest))) : W p l e R s m args below meth c H locs cells slots Q (F0 m pc ls (.int i :: .ref (ad q) :: rest)) :=
  va_zald hexec hb hK hP q t0 (fl_get hq hc) ht hin hdg kk
theorem fl_lald (hexec : p.tables.exec = Jvm.exec) (hb : c.code = cc) (hK : va_K D cl tys s) (hP : va_P D cl (fl_w ad cf n M) H) {q : Nat} (hq : q < n) (t0 : Nat) {cA : ClassId} {N : Nat} (hc : cf q (M.1 q) (M.2 q) = .inl (cA, N, .inr (.inl (M.2 q)))) (ht : tys[t0]? = some (cA, .long)) {i : Int32} (hin : vp_in i N) (hdg : decode cc pc = .ok (.laload, 1)) (kk : W p l e R s m args below meth c H locs cells slots Q (F0 m (pc + 1) ls (.long (M.2 q i.toNatClampNeg) :: rest))) : W p l e R s m args below meth c H locs cells slots Q (F0 m pc ls (.int i :: .ref (ad q) :: rest)) :=
  va_lald hexec hb hK hP q t0 (fl_get hq hc) ht hin hdg kk
theorem fl_iast (hexec : p.tables.exec = Jvm.exec) (hb : c.code = cc) (hK : va_K D cl tys s) (hi : fl_inj ad n) (hP : va_P D cl (fl_w ad cf n M) H) (hS : va_S (fl_A ad n) H0 H locs) {q : Nat} (hq : q < n) (t0 : Nat) {cA : ClassId} {N : Nat} (hc : ∀ f, cf q f (M.2 q) = .inl (cA, N, .inl f)) (ht : tys[t0]? = some (cA, .int)) {i x : Int32} (hin : vp_in i N) (hdg : decode cc pc = .ok (.iastore, 1))
    (kk : ∀ (H1 : Heap) (locs1 : List Loc), va_P D cl (fl_w ad cf n (fl_i M q i.toNatClampNeg x)) H1 → va_S (fl_A ad n) H0 H1 locs1 → W p l e R s m args below meth c H1 locs1 cells slots Q (F0 m (pc + 1) ls rest)) : W p l e R s m args below meth c H locs cells slots Q (F0 m pc ls (.int x :: .int i :: .ref (ad q) :: rest)) := by
  refine va_iast hexec hb hK hP (fl_D hi) hS q t0 (fl_get hq (hc _)) ht hin hdg (fun H1 locs1 h1 _ h3 => kk H1 locs1 ?_ h3)
  rw [← hc, fl_setI hq] at h1
  exact h1
theorem fl_zast (hexec : p.tables.exec = Jvm.exec) (hb : c.code = cc) (hK : va_K D cl tys s) (hi : fl_inj ad n) (hP : va_P D cl (fl_w ad cf n M) H) (hS : va_S (fl_A ad n) H0 H locs) {q : Nat} (hq : q < n) (t0 : Nat) {cA : ClassId} {N : Nat} (hc : ∀ f, cf q f (M.2 q) = .inl (cA, N, .inl f)) (ht : tys[t0]? = some (cA, .boolean)) {i x : Int32} (hx1 : x &&& 1 = x) (hin : vp_in i N) (hdg : decode cc pc = .ok (.bastore, 1))
    (kk : ∀ (H1 : Heap) (locs1 : List Loc), va_P D cl (fl_w ad cf n (fl_i M q i.toNatClampNeg x)) H1 → va_S (fl_A ad n) H0 H1 locs1 → W p l e R s m args below meth c H1 locs1 cells slots Q (F0 m (pc + 1) ls rest)) : W p l e R s m args below meth c H locs cells slots Q (F0 m pc ls (.int x :: .int i :: .ref (ad q) :: rest)) := by
  refine va_zast hexec hb hK hP (fl_D hi) hS q t0 (fl_get hq (hc _)) ht hin hdg (fun H1 locs1 h1 _ h3 => kk H1 locs1 ?_ h3)
  rw [show vp_nar .boolean x = x from hx1, ← hc, fl_setI hq] at h1
  exact h1
theorem fl_last (hexec : p.tables.exec = Jvm.exec) (hb : c.code = cc) (hK : va_K D cl tys s) (hi : fl_inj ad n) (hP : va_P D cl (fl_w ad cf n M) H) (hS : va_S (fl_A ad n) H0 H locs) {q : Nat} (hq : q < n) (t0 : Nat) {cA : ClassId} {N : Nat} (hc : ∀ g, cf q (M.1 q) g = .inl (cA, N, .inr (.inl g))) (ht : tys[t0]? = some (cA, .long)) {i : Int32} {x : Int64} (hin : vp_in i N) (hdg : decode cc pc = .ok (.lastore, 1))
    (kk : ∀ (H1 : Heap) (locs1 : List Loc), va_P D cl (fl_w ad cf n (fl_l M q i.toNatClampNeg x)) H1 → va_S (fl_A ad n) H0 H1 locs1 → W p l e R s m args below meth c H1 locs1 cells slots Q (F0 m (pc + 1) ls rest)) : W p l e R s m args below meth c H locs cells slots Q (F0 m pc ls (.long x :: .int i :: .ref (ad q) :: rest)) := by
  refine va_last hexec hb hK hP (fl_D hi) hS q t0 (fl_get hq (hc _)) ht hin hdg (fun H1 locs1 h1 _ h3 => kk H1 locs1 ?_ h3)
  rw [← hc, fl_setL hq] at h1
  exact h1
/-- an array of references, to numbered cells: read (objects, and arrays) -/
theorem fl_aald (hexec : p.tables.exec = Jvm.exec) (hb : c.code = cc) (hK : va_K D cl tys s) (hP : va_P D cl (fl_w ad cf n M) H) {q : Nat} (hq : q < n) (t0 : Nat) {cA : ClassId} {N : Nat} {rf : Nat → Option Nat} (hc : cf q (M.1 q) (M.2 q) = .inl (cA, N, .inr (.inr (.inr (.inr rf))))) {ty : FieldType} (ht : tys[t0]? = some (cA, ty)) (hty : ty.isReference = true) {i : Int32} (hin : vp_in i N) {a : Nat} (hr : rf i.toNatClampNeg = some a) (hdg : decode cc pc = .ok (.aaload, 1)) (kk : W p l e R s m args below meth c H locs cells slots Q (F0 m (pc + 1) ls (.ref a :: rest))) : W p l e R s m args below meth c H locs cells slots Q (F0 m pc ls (.int i :: .ref (ad q) :: rest)) := by
  have hlt : i.toNatClampNeg < N := Nat.not_le.mp fun q => hin (Or.inr q)
  exact W.aald (v := .ref a) (ty := ty) hexec hb (hP q _ (fl_get hq hc)) ((hK.2 t0 _ ht).1 N (fun j => va_rf (rf j))) hty (fun q => by cases q) (by show ¬ (i < 0 ∨ (arrV _ _ _).slots.size ≤ _); rw [arrV_size]; exact hin) (by show (arrV _ _ _).slots[_]? = _; rw [arrV_read _ _ hlt, hr]; rfl) rfl rfl hdg kk
theorem fl_alen (hexec : p.tables.exec = Jvm.exec) (hb : c.code = cc) (hK : va_K D cl tys s) (hP : va_P D cl (fl_w ad cf n M) H) {q : Nat} (hq : q < n) (t0 : Nat) {cA : ClassId} {x : vp_A} (hc : cf q (M.1 q) (M.2 q) = .inl (cA, x)) {ty : FieldType} (ht : tys[t0]? = some (cA, ty)) {v : Int32} (hv : Int32.ofNat x.1 = v) (hdg : decode cc pc = .ok (.arraylength, 1)) (kk : W p l e R s m args below meth c H locs cells slots Q (F0 m (pc + 1) ls (.int v :: rest))) : W p l e R s m args below meth c H locs cells slots Q (F0 m pc ls (.ref (ad q) :: rest)) :=
  va_alen hexec hb hK hP q t0 (fl_get hq hc) ht hv hdg kk
end FLR
