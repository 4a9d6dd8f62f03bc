/-! the start: what the tables and the given statics say -/
theorem st_arr {s : State} {c : ClassId} {k : Class} {comp : ClassId} {ty : FieldType} (h2 : s.vm.classes[c]? = some k) (h3 : k.kind = .array comp ty) : ArrOfT s c ty := fun N z => ⟨(fun k h => by cases h), k, h2, comp, h3⟩
set_option maxHeartbeats 4000000 in
set_option maxRecDepth 100000 in
theorem st_K {s : State} {args : Array Value} (hts : ∀ w ∈ lw_tbl, w.before args s = true) : ∃ (D : va_G) (cA : Nat → ClassId), va_K D cls (xt cA) s := by
  have hg : ∀ w ∈ gw, w.before args s = true := fun w hw => hts w (List.mem_filter.mp hw).1
  obtain ⟨c0, i0, k0⟩ := u_known (N := 6) hg in_FL (hg _ tw_16)
  obtain ⟨c1, i1, k1⟩ := u_known (N := 4) hg in_CT (hg _ tw_186)
  obtain ⟨c2, i2, k2⟩ := u_known (N := 3) hg in_CF (hg _ tw_192)
  obtain ⟨c3, i3, k3⟩ := u_known (N := 15) hg in_CR (hg _ tw_210)
  obtain ⟨c4, i4, k4⟩ := u_known (N := 3) hg in_GR (hg _ tw_70)
  obtain ⟨c5, i5, k5⟩ := u_known (N := 11) hg in_GF (hg _ tw_78)
  obtain ⟨c6, i6, k6⟩ := u_known (N := 15) hg in_TR (hg _ tw_120)
  obtain ⟨c7, i7, k7⟩ := u_known (N := 8) hg in_WY (hg _ tw_32)
  obtain ⟨c8, i8, k8⟩ := u_known (N := 57) hg in_MD (hg _ tw_766)
  obtain ⟨a0, u0, z0, f0, g0, e0⟩ := Cond.arrayClass_spec (hg _ tw_67)
  obtain ⟨a1, u1, z1, f1, g1, e1⟩ := Cond.arrayClass_spec (hg _ tw_119)
  obtain ⟨a2, u2, z2, f2, g2, e2⟩ := Cond.arrayClass_spec (hg _ tw_68)
  obtain ⟨z3, a3, u3, h3, g3, e3, f3⟩ := ao_spec (hts (.arrayOver (.array .int)) (tb_mem 24 rfl))
  obtain ⟨z4, a4, u4, h4, j4, g4, e4, f4⟩ := Cond.arrayOver_spec (hts (.arrayOver (.object "FarLink$Transaction")) (tb_mem 76 rfl))
  obtain ⟨z5, a5, u5, h5, j5, g5, e5, f5⟩ := Cond.arrayOver_spec (hts (.arrayOver (.object "FarLink$CraftRecord")) (tb_mem 208 rfl))
  refine ⟨(fun c => match c with | 0 => c0 | 1 => c1 | 2 => c2 | 3 => c3 | 4 => c4 | 5 => c5 | 6 => c6 | 7 => c7 | _ => c8, fun c => match c with | 0 => i0 | 1 => i1 | 2 => i2 | 3 => i3 | 4 => i4 | 5 => i5 | 6 => i6 | 7 => i7 | _ => i8), (fun c => match c with | 0 => a0 | 1 => a1 | 2 => a2 | 3 => a3 | 4 => a4 | _ => a5), fun c q hq => ?_, fun c q hq => ?_⟩
  · match c, hq with
    | 0, hq => cases hq; exact k0
    | 1, hq => cases hq; exact k1
    | 2, hq => cases hq; exact k2
    | 3, hq => cases hq; exact k3
    | 4, hq => cases hq; exact k4
    | 5, hq => cases hq; exact k5
    | 6, hq => cases hq; exact k6
    | 7, hq => cases hq; exact k7
    | 8, hq => cases hq; exact k8
    | n + 9, hq => cases hq
  · match c, hq with
    | 0, hq => cases hq; exact ⟨st_arr g0 e0, f0⟩
    | 1, hq => cases hq; exact ⟨st_arr g1 e1, f1⟩
    | 2, hq => cases hq; exact ⟨st_arr g2 e2, f2⟩
    | 3, hq => cases hq; exact ⟨st_arr g3 e3, f3⟩
    | 4, hq => cases hq; exact ⟨st_arr g4 e4, u4, z4, g4, e4, h4, f4⟩
    | 5, hq => cases hq; exact ⟨st_arr g5 e5, u5, z5, g5, e5, h5, f5⟩
    | n + 6, hq => cases hq
set_option maxHeartbeats 4000000 in
set_option maxRecDepth 100000 in
theorem st_N {s : State} {args : Array Value} (hts : ∀ w ∈ lw_tbl, w.before args s = true) : fl_N xFN xMN s := by
  constructor
  · exact List.forall_mem_cons.mpr ⟨va_Nw.of rfl (hts _ (tb_mem 43 rfl)), List.forall_mem_cons.mpr ⟨va_Nw.of rfl (hts _ (tb_mem 45 rfl)), List.forall_mem_cons.mpr ⟨va_Nw.of rfl (hts _ (tb_mem 47 rfl)), List.forall_mem_cons.mpr ⟨va_Nw.of rfl (hts _ (tb_mem 49 rfl)), List.forall_mem_cons.mpr ⟨va_Nw.of rfl (hts _ (tb_mem 92 rfl)), List.forall_mem_cons.mpr ⟨va_Nw.of rfl (hts _ (tb_mem 94 rfl)), List.forall_mem_cons.mpr ⟨va_Nw.of rfl (hts _ (tb_mem 131 rfl)), List.forall_mem_cons.mpr ⟨va_Nw.of rfl (hts _ (tb_mem 141 rfl)), List.forall_mem_cons.mpr ⟨va_Nw.of rfl (hts _ (tb_mem 174 rfl)), List.forall_mem_cons.mpr ⟨va_Nw.of rfl (hts _ (tb_mem 176 rfl)), List.forall_mem_cons.mpr ⟨va_Nw.of rfl (hts _ (tb_mem 217 rfl)), List.forall_mem_cons.mpr ⟨va_Nw.of rfl (hts _ (tb_mem 218 rfl)), List.forall_mem_cons.mpr ⟨va_Nw.of rfl (hts _ (tb_mem 220 rfl)), List.forall_mem_cons.mpr ⟨va_Nw.of rfl (hts _ (tb_mem 221 rfl)), List.forall_mem_cons.mpr ⟨va_Nw.of rfl (hts _ (tb_mem 225 rfl)), List.forall_mem_cons.mpr ⟨va_Nw.of rfl (hts _ (tb_mem 227 rfl)), List.forall_mem_cons.mpr ⟨va_Nw.of rfl (hts _ (tb_mem 268 rfl)), List.forall_mem_cons.mpr ⟨va_Nw.of rfl (hts _ (tb_mem 270 rfl)), fun _ h => absurd h List.not_mem_nil⟩⟩⟩⟩⟩⟩⟩⟩⟩⟩⟩⟩⟩⟩⟩⟩⟩⟩
  · exact List.forall_mem_cons.mpr ⟨va_Nw.of rfl (hts _ (tb_mem 193 rfl)), List.forall_mem_cons.mpr ⟨va_Nw.of rfl (hts _ (tb_mem 324 rfl)), List.forall_mem_cons.mpr ⟨va_Nw.of rfl (hts _ (tb_mem 335 rfl)), List.forall_mem_cons.mpr ⟨va_Nw.of rfl (hts _ (tb_mem 399 rfl)), List.forall_mem_cons.mpr ⟨va_Nw.of rfl (hts _ (tb_mem 421 rfl)), List.forall_mem_cons.mpr ⟨va_Nw.of rfl (hts _ (tb_mem 449 rfl)), List.forall_mem_cons.mpr ⟨va_Nw.of rfl (hts _ (tb_mem 487 rfl)), List.forall_mem_cons.mpr ⟨va_Nw.of rfl (hts _ (tb_mem 507 rfl)), List.forall_mem_cons.mpr ⟨va_Nw.of rfl (hts _ (tb_mem 508 rfl)), List.forall_mem_cons.mpr ⟨va_Nw.of rfl (hts _ (tb_mem 573 rfl)), List.forall_mem_cons.mpr ⟨va_Nw.of rfl (hts _ (tb_mem 680 rfl)), List.forall_mem_cons.mpr ⟨va_Nw.of rfl (hts _ (tb_mem 719 rfl)), fun _ h => absurd h List.not_mem_nil⟩⟩⟩⟩⟩⟩⟩⟩⟩⟩⟩⟩
theorem st_O {s : State} {args : Array Value} (hts : ∀ w ∈ lw_tbl, w.before args s = true) : kO s := ⟨hts (.arrayOver (.object "FarLink$Transaction")) (tb_mem 76 rfl), hts (.arrayOver (.object "FarLink$CraftRecord")) (tb_mem 208 rfl), hts (.arrayOver (.array .int)) (tb_mem 24 rfl)⟩
set_option maxHeartbeats 4000000 in
set_option maxRecDepth 100000 in
theorem st_tb0 {s : State} {args : Array Value} (hts : ∀ w ∈ lw_tbl, w.before args s = true) (hgv : (Jvm.Cond.and given_1 narrow_1).before args s = true) {A : Nat → Prop} (hA : ∀ a : Nat, a < s.heap.size → ¬ A a) : ∃ t : Nat, va_Z "FarLink$UpCode" "RESTS" "[I" (.ref t) A s s.heap ∧ va_T .int t 16 (fun j => .int (tb0 j)) A s s.heap := by
  have hs := flat_of_before _ hgv
  have hel : ∀ j : Nat, j < 16 → (Term.elem (Jvm.Term.static "FarLink$UpCode" "RESTS" "[I") (.int (Int32.ofNat j))).eval args s none [] s = some (.int (tb0 j)) := by
    intro j hj
    match j, hj with
    | 0, _ => exact va_eqt (hs (Jvm.Cond.eq (Jvm.Term.elem (Jvm.Term.static "FarLink$UpCode" "RESTS" "[I") (Jvm.Term.int (0 : Int32))) (Jvm.Term.int (0 : Int32))) (by decide +kernel))
    | 1, _ => exact va_eqt (hs (Jvm.Cond.eq (Jvm.Term.elem (Jvm.Term.static "FarLink$UpCode" "RESTS" "[I") (Jvm.Term.int (1 : Int32))) (Jvm.Term.int (69 : Int32))) (by decide +kernel))
    | 2, _ => exact va_eqt (hs (Jvm.Cond.eq (Jvm.Term.elem (Jvm.Term.static "FarLink$UpCode" "RESTS" "[I") (Jvm.Term.int (2 : Int32))) (Jvm.Term.int (79 : Int32))) (by decide +kernel))
    | 3, _ => exact va_eqt (hs (Jvm.Cond.eq (Jvm.Term.elem (Jvm.Term.static "FarLink$UpCode" "RESTS" "[I") (Jvm.Term.int (3 : Int32))) (Jvm.Term.int (10 : Int32))) (by decide +kernel))
    | 4, _ => exact va_eqt (hs (Jvm.Cond.eq (Jvm.Term.elem (Jvm.Term.static "FarLink$UpCode" "RESTS" "[I") (Jvm.Term.int (4 : Int32))) (Jvm.Term.int (91 : Int32))) (by decide +kernel))
    | 5, _ => exact va_eqt (hs (Jvm.Cond.eq (Jvm.Term.elem (Jvm.Term.static "FarLink$UpCode" "RESTS" "[I") (Jvm.Term.int (5 : Int32))) (Jvm.Term.int (30 : Int32))) (by decide +kernel))
    | 6, _ => exact va_eqt (hs (Jvm.Cond.eq (Jvm.Term.elem (Jvm.Term.static "FarLink$UpCode" "RESTS" "[I") (Jvm.Term.int (6 : Int32))) (Jvm.Term.int (20 : Int32))) (by decide +kernel))
    | 7, _ => exact va_eqt (hs (Jvm.Cond.eq (Jvm.Term.elem (Jvm.Term.static "FarLink$UpCode" "RESTS" "[I") (Jvm.Term.int (7 : Int32))) (Jvm.Term.int (81 : Int32))) (by decide +kernel))
    | 8, _ => exact va_eqt (hs (Jvm.Cond.eq (Jvm.Term.elem (Jvm.Term.static "FarLink$UpCode" "RESTS" "[I") (Jvm.Term.int (8 : Int32))) (Jvm.Term.int (115 : Int32))) (by decide +kernel))
    | 9, _ => exact va_eqt (hs (Jvm.Cond.eq (Jvm.Term.elem (Jvm.Term.static "FarLink$UpCode" "RESTS" "[I") (Jvm.Term.int (9 : Int32))) (Jvm.Term.int (54 : Int32))) (by decide +kernel))
    | 10, _ => exact va_eqt (hs (Jvm.Cond.eq (Jvm.Term.elem (Jvm.Term.static "FarLink$UpCode" "RESTS" "[I") (Jvm.Term.int (10 : Int32))) (Jvm.Term.int (60 : Int32))) (by decide +kernel))
    | 11, _ => exact va_eqt (hs (Jvm.Cond.eq (Jvm.Term.elem (Jvm.Term.static "FarLink$UpCode" "RESTS" "[I") (Jvm.Term.int (11 : Int32))) (Jvm.Term.int (121 : Int32))) (by decide +kernel))
    | 12, _ => exact va_eqt (hs (Jvm.Cond.eq (Jvm.Term.elem (Jvm.Term.static "FarLink$UpCode" "RESTS" "[I") (Jvm.Term.int (12 : Int32))) (Jvm.Term.int (40 : Int32))) (by decide +kernel))
    | 13, _ => exact va_eqt (hs (Jvm.Cond.eq (Jvm.Term.elem (Jvm.Term.static "FarLink$UpCode" "RESTS" "[I") (Jvm.Term.int (13 : Int32))) (Jvm.Term.int (109 : Int32))) (by decide +kernel))
    | 14, _ => exact va_eqt (hs (Jvm.Cond.eq (Jvm.Term.elem (Jvm.Term.static "FarLink$UpCode" "RESTS" "[I") (Jvm.Term.int (14 : Int32))) (Jvm.Term.int (103 : Int32))) (by decide +kernel))
    | 15, _ => exact va_eqt (hs (Jvm.Cond.eq (Jvm.Term.elem (Jvm.Term.static "FarLink$UpCode" "RESTS" "[I") (Jvm.Term.int (15 : Int32))) (Jvm.Term.int (34 : Int32))) (by decide +kernel))
    | n + 16, h => exact absurd h (by omega)
  obtain ⟨t, h1, h2⟩ := va_Tof (tm := (Jvm.Term.static "FarLink$UpCode" "RESTS" "[I")) (ty := .int) (N := 16) (f := fun j => .int (tb0 j)) (by decide) (hs _ (by decide +kernel)) (va_eqt (hs (Jvm.Cond.eq (Jvm.Term.length (Jvm.Term.static "FarLink$UpCode" "RESTS" "[I")) (Jvm.Term.int (16 : Int32))) (by decide +kernel))) hel hA
  exact ⟨t, va_Zref (hts _ (tb_mem 395 rfl)) (hts (.initialized "FarLink$UpCode") (tb_mem 12 rfl)) h1 hA, h2⟩
set_option maxHeartbeats 4000000 in
set_option maxRecDepth 100000 in
theorem st_tb1 {s : State} {args : Array Value} (hts : ∀ w ∈ lw_tbl, w.before args s = true) (hgv : (Jvm.Cond.and given_1 narrow_1).before args s = true) {A : Nat → Prop} (hA : ∀ a : Nat, a < s.heap.size → ¬ A a) : ∃ t : Nat, va_Z "FarLink$DownCode" "POWERS" "[I" (.ref t) A s s.heap ∧ va_T .int t 15 (fun j => .int (tb1 j)) A s s.heap := by
  have hs := flat_of_before _ hgv
  have hel : ∀ j : Nat, j < 15 → (Term.elem (Jvm.Term.static "FarLink$DownCode" "POWERS" "[I") (.int (Int32.ofNat j))).eval args s none [] s = some (.int (tb1 j)) := by
    intro j hj
    match j, hj with
    | 0, _ => exact va_eqt (hs (Jvm.Cond.eq (Jvm.Term.elem (Jvm.Term.static "FarLink$DownCode" "POWERS" "[I") (Jvm.Term.int (0 : Int32))) (Jvm.Term.int (1 : Int32))) (by decide +kernel))
    | 1, _ => exact va_eqt (hs (Jvm.Cond.eq (Jvm.Term.elem (Jvm.Term.static "FarLink$DownCode" "POWERS" "[I") (Jvm.Term.int (1 : Int32))) (Jvm.Term.int (2 : Int32))) (by decide +kernel))
    | 2, _ => exact va_eqt (hs (Jvm.Cond.eq (Jvm.Term.elem (Jvm.Term.static "FarLink$DownCode" "POWERS" "[I") (Jvm.Term.int (2 : Int32))) (Jvm.Term.int (4 : Int32))) (by decide +kernel))
    | 3, _ => exact va_eqt (hs (Jvm.Cond.eq (Jvm.Term.elem (Jvm.Term.static "FarLink$DownCode" "POWERS" "[I") (Jvm.Term.int (3 : Int32))) (Jvm.Term.int (8 : Int32))) (by decide +kernel))
    | 4, _ => exact va_eqt (hs (Jvm.Cond.eq (Jvm.Term.elem (Jvm.Term.static "FarLink$DownCode" "POWERS" "[I") (Jvm.Term.int (4 : Int32))) (Jvm.Term.int (3 : Int32))) (by decide +kernel))
    | 5, _ => exact va_eqt (hs (Jvm.Cond.eq (Jvm.Term.elem (Jvm.Term.static "FarLink$DownCode" "POWERS" "[I") (Jvm.Term.int (5 : Int32))) (Jvm.Term.int (6 : Int32))) (by decide +kernel))
    | 6, _ => exact va_eqt (hs (Jvm.Cond.eq (Jvm.Term.elem (Jvm.Term.static "FarLink$DownCode" "POWERS" "[I") (Jvm.Term.int (6 : Int32))) (Jvm.Term.int (12 : Int32))) (by decide +kernel))
    | 7, _ => exact va_eqt (hs (Jvm.Cond.eq (Jvm.Term.elem (Jvm.Term.static "FarLink$DownCode" "POWERS" "[I") (Jvm.Term.int (7 : Int32))) (Jvm.Term.int (11 : Int32))) (by decide +kernel))
    | 8, _ => exact va_eqt (hs (Jvm.Cond.eq (Jvm.Term.elem (Jvm.Term.static "FarLink$DownCode" "POWERS" "[I") (Jvm.Term.int (8 : Int32))) (Jvm.Term.int (5 : Int32))) (by decide +kernel))
    | 9, _ => exact va_eqt (hs (Jvm.Cond.eq (Jvm.Term.elem (Jvm.Term.static "FarLink$DownCode" "POWERS" "[I") (Jvm.Term.int (9 : Int32))) (Jvm.Term.int (10 : Int32))) (by decide +kernel))
    | 10, _ => exact va_eqt (hs (Jvm.Cond.eq (Jvm.Term.elem (Jvm.Term.static "FarLink$DownCode" "POWERS" "[I") (Jvm.Term.int (10 : Int32))) (Jvm.Term.int (7 : Int32))) (by decide +kernel))
    | 11, _ => exact va_eqt (hs (Jvm.Cond.eq (Jvm.Term.elem (Jvm.Term.static "FarLink$DownCode" "POWERS" "[I") (Jvm.Term.int (11 : Int32))) (Jvm.Term.int (14 : Int32))) (by decide +kernel))
    | 12, _ => exact va_eqt (hs (Jvm.Cond.eq (Jvm.Term.elem (Jvm.Term.static "FarLink$DownCode" "POWERS" "[I") (Jvm.Term.int (12 : Int32))) (Jvm.Term.int (15 : Int32))) (by decide +kernel))
    | 13, _ => exact va_eqt (hs (Jvm.Cond.eq (Jvm.Term.elem (Jvm.Term.static "FarLink$DownCode" "POWERS" "[I") (Jvm.Term.int (13 : Int32))) (Jvm.Term.int (13 : Int32))) (by decide +kernel))
    | 14, _ => exact va_eqt (hs (Jvm.Cond.eq (Jvm.Term.elem (Jvm.Term.static "FarLink$DownCode" "POWERS" "[I") (Jvm.Term.int (14 : Int32))) (Jvm.Term.int (9 : Int32))) (by decide +kernel))
    | n + 15, h => exact absurd h (by omega)
  obtain ⟨t, h1, h2⟩ := va_Tof (tm := (Jvm.Term.static "FarLink$DownCode" "POWERS" "[I")) (ty := .int) (N := 15) (f := fun j => .int (tb1 j)) (by decide) (hs _ (by decide +kernel)) (va_eqt (hs (Jvm.Cond.eq (Jvm.Term.length (Jvm.Term.static "FarLink$DownCode" "POWERS" "[I")) (Jvm.Term.int (15 : Int32))) (by decide +kernel))) hel hA
  exact ⟨t, va_Zref (hts _ (tb_mem 423 rfl)) (hts (.initialized "FarLink$DownCode") (tb_mem 14 rfl)) h1 hA, h2⟩
set_option maxHeartbeats 4000000 in
set_option maxRecDepth 100000 in
theorem st_tb2 {s : State} {args : Array Value} (hts : ∀ w ∈ lw_tbl, w.before args s = true) (hgv : (Jvm.Cond.and given_1 narrow_1).before args s = true) {A : Nat → Prop} (hA : ∀ a : Nat, a < s.heap.size → ¬ A a) : ∃ t : Nat, va_Z "FarLink$DownCode" "LOGS" "[I" (.ref t) A s s.heap ∧ va_T .int t 16 (fun j => .int (tb2 j)) A s s.heap := by
  have hs := flat_of_before _ hgv
  have hel : ∀ j : Nat, j < 16 → (Term.elem (Jvm.Term.static "FarLink$DownCode" "LOGS" "[I") (.int (Int32.ofNat j))).eval args s none [] s = some (.int (tb2 j)) := by
    intro j hj
    match j, hj with
    | 0, _ => exact va_eqt (hs (Jvm.Cond.eq (Jvm.Term.elem (Jvm.Term.static "FarLink$DownCode" "LOGS" "[I") (Jvm.Term.int (0 : Int32))) (Jvm.Term.int (0 : Int32))) (by decide +kernel))
    | 1, _ => exact va_eqt (hs (Jvm.Cond.eq (Jvm.Term.elem (Jvm.Term.static "FarLink$DownCode" "LOGS" "[I") (Jvm.Term.int (1 : Int32))) (Jvm.Term.int (0 : Int32))) (by decide +kernel))
    | 2, _ => exact va_eqt (hs (Jvm.Cond.eq (Jvm.Term.elem (Jvm.Term.static "FarLink$DownCode" "LOGS" "[I") (Jvm.Term.int (2 : Int32))) (Jvm.Term.int (1 : Int32))) (by decide +kernel))
    | 3, _ => exact va_eqt (hs (Jvm.Cond.eq (Jvm.Term.elem (Jvm.Term.static "FarLink$DownCode" "LOGS" "[I") (Jvm.Term.int (3 : Int32))) (Jvm.Term.int (4 : Int32))) (by decide +kernel))
    | 4, _ => exact va_eqt (hs (Jvm.Cond.eq (Jvm.Term.elem (Jvm.Term.static "FarLink$DownCode" "LOGS" "[I") (Jvm.Term.int (4 : Int32))) (Jvm.Term.int (2 : Int32))) (by decide +kernel))
    | 5, _ => exact va_eqt (hs (Jvm.Cond.eq (Jvm.Term.elem (Jvm.Term.static "FarLink$DownCode" "LOGS" "[I") (Jvm.Term.int (5 : Int32))) (Jvm.Term.int (8 : Int32))) (by decide +kernel))
    | 6, _ => exact va_eqt (hs (Jvm.Cond.eq (Jvm.Term.elem (Jvm.Term.static "FarLink$DownCode" "LOGS" "[I") (Jvm.Term.int (6 : Int32))) (Jvm.Term.int (5 : Int32))) (by decide +kernel))
    | 7, _ => exact va_eqt (hs (Jvm.Cond.eq (Jvm.Term.elem (Jvm.Term.static "FarLink$DownCode" "LOGS" "[I") (Jvm.Term.int (7 : Int32))) (Jvm.Term.int (10 : Int32))) (by decide +kernel))
    | 8, _ => exact va_eqt (hs (Jvm.Cond.eq (Jvm.Term.elem (Jvm.Term.static "FarLink$DownCode" "LOGS" "[I") (Jvm.Term.int (8 : Int32))) (Jvm.Term.int (3 : Int32))) (by decide +kernel))
    | 9, _ => exact va_eqt (hs (Jvm.Cond.eq (Jvm.Term.elem (Jvm.Term.static "FarLink$DownCode" "LOGS" "[I") (Jvm.Term.int (9 : Int32))) (Jvm.Term.int (14 : Int32))) (by decide +kernel))
    | 10, _ => exact va_eqt (hs (Jvm.Cond.eq (Jvm.Term.elem (Jvm.Term.static "FarLink$DownCode" "LOGS" "[I") (Jvm.Term.int (10 : Int32))) (Jvm.Term.int (9 : Int32))) (by decide +kernel))
    | 11, _ => exact va_eqt (hs (Jvm.Cond.eq (Jvm.Term.elem (Jvm.Term.static "FarLink$DownCode" "LOGS" "[I") (Jvm.Term.int (11 : Int32))) (Jvm.Term.int (7 : Int32))) (by decide +kernel))
    | 12, _ => exact va_eqt (hs (Jvm.Cond.eq (Jvm.Term.elem (Jvm.Term.static "FarLink$DownCode" "LOGS" "[I") (Jvm.Term.int (12 : Int32))) (Jvm.Term.int (6 : Int32))) (by decide +kernel))
    | 13, _ => exact va_eqt (hs (Jvm.Cond.eq (Jvm.Term.elem (Jvm.Term.static "FarLink$DownCode" "LOGS" "[I") (Jvm.Term.int (13 : Int32))) (Jvm.Term.int (13 : Int32))) (by decide +kernel))
    | 14, _ => exact va_eqt (hs (Jvm.Cond.eq (Jvm.Term.elem (Jvm.Term.static "FarLink$DownCode" "LOGS" "[I") (Jvm.Term.int (14 : Int32))) (Jvm.Term.int (11 : Int32))) (by decide +kernel))
    | 15, _ => exact va_eqt (hs (Jvm.Cond.eq (Jvm.Term.elem (Jvm.Term.static "FarLink$DownCode" "LOGS" "[I") (Jvm.Term.int (15 : Int32))) (Jvm.Term.int (12 : Int32))) (by decide +kernel))
    | n + 16, h => exact absurd h (by omega)
  obtain ⟨t, h1, h2⟩ := va_Tof (tm := (Jvm.Term.static "FarLink$DownCode" "LOGS" "[I")) (ty := .int) (N := 16) (f := fun j => .int (tb2 j)) (by decide) (hs _ (by decide +kernel)) (va_eqt (hs (Jvm.Cond.eq (Jvm.Term.length (Jvm.Term.static "FarLink$DownCode" "LOGS" "[I")) (Jvm.Term.int (16 : Int32))) (by decide +kernel))) hel hA
  exact ⟨t, va_Zref (hts _ (tb_mem 428 rfl)) (hts (.initialized "FarLink$DownCode") (tb_mem 14 rfl)) h1 hA, h2⟩
set_option maxHeartbeats 4000000 in
set_option maxRecDepth 100000 in
theorem st_tb3 {s : State} {args : Array Value} (hts : ∀ w ∈ lw_tbl, w.before args s = true) (hgv : (Jvm.Cond.and given_1 narrow_1).before args s = true) {A : Nat → Prop} (hA : ∀ a : Nat, a < s.heap.size → ¬ A a) : ∃ t : Nat, va_Z "FarLink$DownCode" "RESTS" "[I" (.ref t) A s s.heap ∧ va_T .int t 16 (fun j => .int (tb3 j)) A s s.heap := by
  have hs := flat_of_before _ hgv
  have hel : ∀ j : Nat, j < 16 → (Term.elem (Jvm.Term.static "FarLink$DownCode" "RESTS" "[I") (.int (Int32.ofNat j))).eval args s none [] s = some (.int (tb3 j)) := by
    intro j hj
    match j, hj with
    | 0, _ => exact va_eqt (hs (Jvm.Cond.eq (Jvm.Term.elem (Jvm.Term.static "FarLink$DownCode" "RESTS" "[I") (Jvm.Term.int (0 : Int32))) (Jvm.Term.int (0 : Int32))) (by decide +kernel))
    | 1, _ => exact va_eqt (hs (Jvm.Cond.eq (Jvm.Term.elem (Jvm.Term.static "FarLink$DownCode" "RESTS" "[I") (Jvm.Term.int (1 : Int32))) (Jvm.Term.int (56455 : Int32))) (by decide +kernel))
    | 2, _ => exact va_eqt (hs (Jvm.Cond.eq (Jvm.Term.elem (Jvm.Term.static "FarLink$DownCode" "RESTS" "[I") (Jvm.Term.int (2 : Int32))) (Jvm.Term.int (39742 : Int32))) (by decide +kernel))
    | 3, _ => exact va_eqt (hs (Jvm.Cond.eq (Jvm.Term.elem (Jvm.Term.static "FarLink$DownCode" "RESTS" "[I") (Jvm.Term.int (3 : Int32))) (Jvm.Term.int (18361 : Int32))) (by decide +kernel))
    | 4, _ => exact va_eqt (hs (Jvm.Cond.eq (Jvm.Term.elem (Jvm.Term.static "FarLink$DownCode" "RESTS" "[I") (Jvm.Term.int (4 : Int32))) (Jvm.Term.int (5487 : Int32))) (by decide +kernel))
    | 5, _ => exact va_eqt (hs (Jvm.Cond.eq (Jvm.Term.elem (Jvm.Term.static "FarLink$DownCode" "RESTS" "[I") (Jvm.Term.int (5 : Int32))) (Jvm.Term.int (51688 : Int32))) (by decide +kernel))
    | 6, _ => exact va_eqt (hs (Jvm.Cond.eq (Jvm.Term.elem (Jvm.Term.static "FarLink$DownCode" "RESTS" "[I") (Jvm.Term.int (6 : Int32))) (Jvm.Term.int (36433 : Int32))) (by decide +kernel))
    | 7, _ => exact va_eqt (hs (Jvm.Cond.eq (Jvm.Term.elem (Jvm.Term.static "FarLink$DownCode" "RESTS" "[I") (Jvm.Term.int (7 : Int32))) (Jvm.Term.int (21206 : Int32))) (by decide +kernel))
    | 8, _ => exact va_eqt (hs (Jvm.Cond.eq (Jvm.Term.elem (Jvm.Term.static "FarLink$DownCode" "RESTS" "[I") (Jvm.Term.int (8 : Int32))) (Jvm.Term.int (10957 : Int32))) (by decide +kernel))
    | 9, _ => exact va_eqt (hs (Jvm.Cond.eq (Jvm.Term.elem (Jvm.Term.static "FarLink$DownCode" "RESTS" "[I") (Jvm.Term.int (9 : Int32))) (Jvm.Term.int (63050 : Int32))) (by decide +kernel))
    | 10, _ => exact va_eqt (hs (Jvm.Cond.eq (Jvm.Term.elem (Jvm.Term.static "FarLink$DownCode" "RESTS" "[I") (Jvm.Term.int (10 : Int32))) (Jvm.Term.int (45555 : Int32))) (by decide +kernel))
    | 11, _ => exact va_eqt (hs (Jvm.Cond.eq (Jvm.Term.elem (Jvm.Term.static "FarLink$DownCode" "RESTS" "[I") (Jvm.Term.int (11 : Int32))) (Jvm.Term.int (28020 : Int32))) (by decide +kernel))
    | 12, _ => exact va_eqt (hs (Jvm.Cond.eq (Jvm.Term.elem (Jvm.Term.static "FarLink$DownCode" "RESTS" "[I") (Jvm.Term.int (12 : Int32))) (Jvm.Term.int (16290 : Int32))) (by decide +kernel))
    | 13, _ => exact va_eqt (hs (Jvm.Cond.eq (Jvm.Term.elem (Jvm.Term.static "FarLink$DownCode" "RESTS" "[I") (Jvm.Term.int (13 : Int32))) (Jvm.Term.int (58149 : Int32))) (by decide +kernel))
    | 14, _ => exact va_eqt (hs (Jvm.Cond.eq (Jvm.Term.elem (Jvm.Term.static "FarLink$DownCode" "RESTS" "[I") (Jvm.Term.int (14 : Int32))) (Jvm.Term.int (42140 : Int32))) (by decide +kernel))
    | 15, _ => exact va_eqt (hs (Jvm.Cond.eq (Jvm.Term.elem (Jvm.Term.static "FarLink$DownCode" "RESTS" "[I") (Jvm.Term.int (15 : Int32))) (Jvm.Term.int (30747 : Int32))) (by decide +kernel))
    | n + 16, h => exact absurd h (by omega)
  obtain ⟨t, h1, h2⟩ := va_Tof (tm := (Jvm.Term.static "FarLink$DownCode" "RESTS" "[I")) (ty := .int) (N := 16) (f := fun j => .int (tb3 j)) (by decide) (hs _ (by decide +kernel)) (va_eqt (hs (Jvm.Cond.eq (Jvm.Term.length (Jvm.Term.static "FarLink$DownCode" "RESTS" "[I")) (Jvm.Term.int (16 : Int32))) (by decide +kernel))) hel hA
  exact ⟨t, va_Zref (hts _ (tb_mem 414 rfl)) (hts (.initialized "FarLink$DownCode") (tb_mem 14 rfl)) h1 hA, h2⟩
theorem st_S {s : State} {args : Array Value} (hts : ∀ w ∈ lw_tbl, w.before args s = true) (hgv : (Jvm.Cond.and given_1 narrow_1).before args s = true) {A : Nat → Prop} (hA : ∀ a : Nat, a < s.heap.size → ¬ A a) : ∃ st : Nat → Nat, fl_St (xSL st) A s := by
  obtain ⟨t0, h0⟩ := st_tb0 hts hgv hA
  obtain ⟨t1, h1⟩ := st_tb1 hts hgv hA
  obtain ⟨t2, h2⟩ := st_tb2 hts hgv hA
  obtain ⟨t3, h3⟩ := st_tb3 hts hgv hA
  refine ⟨fun k => match k with | 0 => t0 | 1 => t1 | 2 => t2 | _ => t3, ?_⟩
  exact List.forall_mem_cons.mpr ⟨h0, List.forall_mem_cons.mpr ⟨h1, List.forall_mem_cons.mpr ⟨h2, List.forall_mem_cons.mpr ⟨h3, fun _ h => absurd h List.not_mem_nil⟩⟩⟩⟩
