/-! words for shifts; bounds of indices; loops' counters -/
def j_iushr (x y : Int32) : Int32 := (x.toUInt32 >>> (y.toUInt32 &&& Int32.toUInt32 31)).toInt32
def j_lushr (x : Int64) (y : Int32) : Int64 := (x.toUInt64 >>> (y.toInt64.toUInt64 &&& Int64.toUInt64 63)).toInt64
def j_lshl (x : Int64) (y : Int32) : Int64 := x <<< (y.toInt64 &&& 63)
def j_lshr (x : Int64) (y : Int32) : Int64 := x >>> (y.toInt64 &&& 63)
theorem fl_in15 (x : Int32) : vp_in (x &&& 15) 16 := pk_andIn x 4 rfl (by decide)
theorem fl_in7 (x : Int32) : vp_in (x &&& 7) 8 := pk_andIn x 3 rfl (by decide)
theorem fl_inc (n : Nat) : nI n + Int32.ofInt 1 = nI (n + 1) := (nI_succ n).symm
theorem fl_dec (n : Nat) : nI (n + 1) + Int32.ofInt (-1) = nI n := pk_m1 n
theorem fl_z01 {v : Int32} (h : v &&& 1 = v) : v = 0 ∨ v = 1 := by
  obtain ⟨j, hj, e⟩ := pk_andE v (m := 1) 1 rfl
  rw [h] at e
  rcases (show j = 0 ∨ j = 1 by omega) with rfl | rfl
  · exact Or.inl (e.trans rfl)
  · exact Or.inr (e.trans rfl)
theorem fl_zfit {v : Int32} (h : v &&& 1 = v) : fits .boolean (.int v) = true := by
  rcases fl_z01 h with rfl | rfl <;> rfl
theorem fl_zof {v : Int32} (h : v = 0 ∨ v = 1) : v &&& 1 = v := by
  rcases h with rfl | rfl <;> rfl
theorem fl_le {x : Int32} {b i : Nat} (hx : x = nI b) (h : b ≤ i) (hi : i < 2 ^ 31) : x ≤ nI i := by rw [hx]; exact nI_le h hi
theorem fl_nle {x : Int32} {b i : Nat} (hx : x = nI b) (h : i < b) (hb : b < 2 ^ 31) : ¬ x ≤ nI i := by rw [hx]; exact nI_ge h hb
section FLT
variable {p : Program} {l : Launch} {e : Env} {R : Room} {s : State} {m : MethodId} {args : Array Value} {below : List Frame} {meth : Method} {c : Code} {H : Heap} {locs : List Loc} {cells slots : Nat} {Q : State → Prop} {cc : ByteArray} {pc : Nat} {ls : Array Slot} {rest : List Value} {A : Nat → Prop} {t N : Nat} {f : Nat → Int32}
theorem fl_tab (hexec : p.tables.exec = Jvm.exec) (hb : c.code = cc) (hT : va_T .int t N (fun j => .int (f j)) A s s.heap) (hS : va_S A s.heap H locs) {i : Int32} (hin : vp_in i N) (hdg : decode cc pc = .ok (.iaload, 1)) (kk : W p l e R s m args below meth c H locs cells slots Q (F0 m (pc + 1) ls (.int (f i.toNatClampNeg) :: rest))) : W p l e R s m args below meth c H locs cells slots Q (F0 m pc ls (.int i :: .ref t :: rest)) := va_ti hexec hb hT hS hin rfl hdg kk
end FLT
