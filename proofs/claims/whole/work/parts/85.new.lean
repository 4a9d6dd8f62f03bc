/-! a new object -/
def zW : Nat → Nat → Int32 := fun _ _ => 0
/-- the reference, new, with delay d -/
def N0 (d : Nat) : fl_M := (fun q => if q = 0 then upd (upd (upd z32 0 (nI d)) 1 (nI (2 * d + 6))) 34 1 else z32, fun q => if q = 0 then vp_updL z64 2 121991 else z64)
set_option maxHeartbeats 4000000 in
set_option maxRecDepth 100000 in
theorem n0_nn : nn (0 : Int32) ∧ (0 : Int32).toNatClampNeg ≤ 16 := ⟨nn_nI (j := 0) (by decide), by decide⟩
set_option maxHeartbeats 4000000 in
set_option maxRecDepth 100000 in
theorem j_0 (d : Nat) : J (N0 d) zW 0 d 0 0 0 0 0 ∧ SV ((N0 d).1 39) := by
  refine ⟨⟨rfl, rfl, rfl, rfl, rfl, fun t ht => ⟨⟨Or.inl rfl, fun _ => rfl, fun _ => rfl, fun c => absurd rfl c, Or.inl rfl, Or.inl rfl, Or.inl rfl, vp_in_nI (n := 0) (by decide) (by decide), n0_nn.1, n0_nn.2⟩, n0_nn⟩, fun t ht => ⟨⟨0, by decide, rfl, fun k hk hb => absurd (show (0 : Int32) &&& ((1 : Int32) <<< (nI k &&& 31)) = 0 from Int32.zero_and) hb, fun k hk => by omega⟩, fun _ => rfl, fun c => by omega⟩, ⟨⟨0, by decide, rfl⟩, ⟨0, by decide, rfl⟩, fun _ => rfl, Or.inl rfl, fun k => show ¬ (0 : Int64) < 0 by decide⟩, ⟨fun j hj c => absurd rfl c, fun j hj c => absurd rfl c, Int64.zero_and, show ¬ (0 : Int32) < 0 by decide⟩, ⟨fun j hj c => absurd rfl c, fun j hj c => absurd rfl c, Int64.zero_and, show ¬ (0 : Int32) < 0 by decide⟩, ⟨0, by decide, rfl⟩⟩, fun f hf => ⟨0, by decide, rfl⟩⟩
