/-! new int[n][k]: the outer array and its rows at the world's end -/
theorem kq_inner (c : ClassId) (K : Nat) : Jvm.Free.Multi.innerC c K (defaultValue .int) = vp_cell c (K, .inl z32) := by
  rw [vp_cell_i]
  show ({ cls := c, slots := Array.replicate K (.int 0), vm := .none } : Cell) = _
  rw [arrV_new]
  rfl
theorem kq_outer (c : ClassId) (N h0 : Nat) : ∀ i : Nat, Jvm.Free.Multi.outerC c N h0 i = arrV c N (fun j => va_rf (if j < i then some (h0 + 1 + j) else none))
  | 0 => by
    show ({ cls := c, slots := Array.replicate N .null, vm := .none } : Cell) = _
    rw [arrV_new]
    refine congrArg (arrV c N) (funext fun j => ?_)
    simp [va_rf]
  | i + 1 => by
    show (Jvm.Free.Multi.outerC c N h0 i).setSlot i (.ref (h0 + 1 + i)) = _
    rw [kq_outer c N h0 i, arrV_store]
    refine congrArg (arrV c N) (funext fun j => ?_)
    by_cases e : j = i
    · subst e
      simp [updV, va_rf]
    · by_cases h : j < i
      · simp [updV, e, h, Nat.lt_succ_of_lt h]
      · simp [updV, e, h, show ¬ j < i + 1 by omega]
def mRows (q N K : Nat) (c : ClassId) : va_W := (List.range N).map (fun i => (q + 1 + i, .inl (c, K, .inl z32)))
def mArr (q N K : Nat) (c c' : ClassId) : va_W := (q, .inl (c', N, .inr (.inr (.inr (.inr (fun i => if i < N then some (q + 1 + i) else none)))))) :: mRows q N K c
section CM
variable {p : Program} {l : Launch} {e : Env} {R : Room} {s : State} {m : MethodId} {args : Array Value} {below : List Frame} {meth : Method} {c : Code} {H : Heap} {locs : List Loc} {cells slots : Nat} {Q : State → Prop}
variable {cc : ByteArray} {pc : Nat} {ls : Array Slot} {rest : List Value} {D : va_G} {cl : List vw_C} {A : Nat → Prop} {tys : List (ClassId × FieldType)} {ws : va_W} {H0 : Heap}
theorem kq_mna (hexec : p.tables.exec = Jvm.exec) (hb : c.code = cc) {own : String} {index : Nat} (hown : s.vm.findClass own = some m.cls) (hclink : (Cond.classLink own index "[[I").before args s = true) (hover : (Cond.arrayOver (.array .int)).before args s = true) (harr : (Cond.arrayClass .int).before args s = true) (hK : va_K D cl tys s) {t0 t1 : Nat} {cI cII : ClassId} (ht0 : tys[t0]? = some (cI, .int)) (ht1 : tys[t1]? = some (cII, .array .int)) (hP : va_P D cl ws H) (hD : va_D A ws) (hS : va_S A H0 H locs) (hA : ∀ q, H0.size ≤ q → A q)
    {n k : Int32} {N K : Nat} (hn : ¬ n < 0) (hk : ¬ k < 0) (hN : n.toNatClampNeg = N) (hM : k.toNatClampNeg = K) (hb1 : N * 4 ≤ 536870912) (hb2 : K * 4 ≤ 536870912) (hcells : cells + (1 + N) ≤ R.cells) (hslots : slots + (N + N * K) ≤ R.slots) (hdg : decode cc pc = .ok (.multianewarray index 2, 4))
    (kk : ∀ (q : Nat) (H1 : Heap), va_P D cl (ws ++ mArr q N K cI cII) H1 → va_D A (ws ++ mArr q N K cI cII) → va_S A H0 H1 locs → W p l e R s m args below meth c H1 locs (cells + 1 + N) (slots + N + N * K) Q (F0 m (pc + 4) ls (.ref q :: rest))) : W p l e R s m args below meth c H locs cells slots Q (F0 m pc ls (.int k :: .int n :: rest)) := by
  subst hN
  subst hM
  intro T hT Xs
  obtain ⟨vm₁, cA, comp, -, fA, fC, hO, -, X', step⟩ := Xs.multianewarray2F (ty := .int) hexec hown (show (Cond.classLink own index ("[" ++ (FieldType.array .int).toString)).before args s = true from hclink) hover harr (g := F0 m pc ls (.int k :: .int n :: rest)) rfl (by rw [hb]; exact hdg) rfl hn hk hb1 hb2 (by omega) rfl rfl hcells hslots
  have e1 : cA = cII := Option.some.inj (fA.symm.trans (hK.2 t1 _ ht1).2)
  have e2 : comp = cI := Option.some.inj (fC.symm.trans (hK.2 t0 _ ht0).2)
  subst e1
  subst e2
  generalize hF : Jvm.Free.Multi.fill (T.setVm vm₁) cA comp n.toNatClampNeg k.toNatClampNeg (defaultValue .int) n.toNatClampNeg = F at X' step
  have hTh : (T.setVm vm₁).heap = H := hT
  obtain ⟨f1, f2, -, -⟩ := Jvm.Free.Multi.fill_facts (T.setVm vm₁) cA comp n.toNatClampNeg k.toNatClampNeg (defaultValue .int) n.toNatClampNeg
  rw [hF, hTh] at f1 f2
  have hold : ∀ x : Nat, x < H.size → F.heap[x]? = H[x]? := fun x hx => by
    have := Jvm.Free.Multi.fill_old (T.setVm vm₁) cA comp n.toNatClampNeg k.toNatClampNeg (defaultValue .int) (a := x) (by rw [hTh]; exact hx) n.toNatClampNeg
    rw [hF, hTh] at this
    exact this
  have hrow : ∀ j : Nat, j < n.toNatClampNeg → F.heap[H.size + 1 + j]? = some (vp_cell comp (k.toNatClampNeg, .inl z32)) := fun j hj => by
    have := Jvm.Free.Multi.fill_inner (T.setVm vm₁) cA comp n.toNatClampNeg k.toNatClampNeg (defaultValue .int) n.toNatClampNeg j hj
    rw [hF, hTh, kq_inner] at this
    exact this
  have f2 : F.heap[H.size]? = some (vp_cell cA (n.toNatClampNeg, .inr (.inr (.inr (.inr (fun i => if i < n.toNatClampNeg then some (H.size + 1 + i) else none)))))) := by
    rw [vp_cell_q, ← kq_outer cA n.toNatClampNeg H.size n.toNatClampNeg]
    exact f2
  have hlt : ∀ (j : Nat) (x : Nat × va_E), ws[j]? = some x → x.1 < H.size := fun j x hx => (hP j x hx).lt
  have hmem : ∀ (j : Nat) (x : Nat × va_E), (mArr H.size n.toNatClampNeg k.toNatClampNeg comp cA)[j]? = some x → x.1 = H.size + j ∧ va_at D cl x F.heap := fun j x hx => by
    cases j with
    | zero =>
      have := Option.some.inj hx
      subst this
      exact ⟨rfl, f2⟩
    | succ j =>
      have hx : (mRows H.size n.toNatClampNeg k.toNatClampNeg comp)[j]? = some x := hx
      unfold mRows at hx
      rw [List.getElem?_map] at hx
      cases hj : (List.range n.toNatClampNeg)[j]? with
      | none => rw [hj] at hx; cases hx
      | some y =>
        rw [hj] at hx
        have := Option.some.inj hx
        subst this
        obtain ⟨g1, g2⟩ := List.getElem?_eq_some_iff.mp hj
        rw [List.getElem_range] at g2
        rw [List.length_range] at g1
        subst g2
        exact ⟨by show H.size + 1 + j = H.size + (j + 1); omega, hrow j g1⟩
  have hS1 : va_S A H0 F.heap locs := ⟨Nat.le_trans hS.1 (by rw [f1]; omega), fun x h1 h2 => (hold x (Nat.lt_of_lt_of_le h1 hS.1)).trans (hS.2.1 x h1 h2), hS.2.2⟩
  obtain ⟨t', a1, b1⟩ := kk H.size F.heap ((hP.kept (fun j x hx => hold x.1 (hlt j x hx))).app (fun j x hx => (hmem j x hx).2)) ⟨fun i j p q hi hj c => by
    rw [List.getElem?_append] at hi hj
    split at hi <;> split at hj
    · exact hD.1 i j p q hi hj c
    · have h1 := hlt i p hi
      have h2 := (hmem _ q hj).1
      omega
    · have h1 := hlt j q hj
      have h2 := (hmem _ p hi).1
      omega
    · have h1 := (hmem _ p hi).1
      have h2 := (hmem _ q hj).1
      omega, fun j x hx => by
    rw [List.getElem?_append] at hx
    split at hx
    · exact hD.2 j x hx
    · rw [(hmem _ x hx).1]
      exact hA _ (Nat.le_trans hS.1 (Nat.le_add_right _ _))⟩ hS1 F rfl X'
  refine ⟨t', step t' ?_, b1⟩
  rw [hT]
  exact a1
end CM
