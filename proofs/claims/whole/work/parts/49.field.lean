/-! the field of sixteen: the class's product and quotient, the reference's product -/
theorem gf_md : ∀ a, a < 16 → ∀ b, b < 16 → g_DC_times (nI a) (nI b) = g_MD_times (nI a) (nI b) := by decide +kernel
theorem gf_cl : ∀ a, a < 16 → ∀ b, b < 16 → (g_DC_times (nI a) (nI b)) &&& 15 = g_DC_times (nI a) (nI b) := by decide +kernel
theorem gf_comm : ∀ a, a < 16 → ∀ b, b < 16 → g_DC_times (nI a) (nI b) = g_DC_times (nI b) (nI a) := by decide +kernel
theorem gf_dist : ∀ a, a < 16 → ∀ b, b < 16 → ∀ c, c < 16 → g_DC_times (nI a ^^^ nI b) (nI c) = g_DC_times (nI a) (nI c) ^^^ g_DC_times (nI b) (nI c) := by decide +kernel
theorem gf_assoc : ∀ a, a < 16 → ∀ b, b < 16 → ∀ c, c < 16 → g_DC_times (g_DC_times (nI a) (nI b)) (nI c) = g_DC_times (nI a) (g_DC_times (nI b) (nI c)) := by decide +kernel
theorem gf_over : ∀ a, a < 16 → ∀ b, b < 15 → g_DC_times (g_DC_over (nI a) (nI (b + 1))) (nI (b + 1)) = nI a := by decide +kernel
theorem gf_ocl : ∀ a, a < 16 → ∀ b, b < 16 → (g_DC_over (nI a) (nI b)) &&& 15 = g_DC_over (nI a) (nI b) := by decide +kernel
theorem gf_int : ∀ a, a < 16 → ∀ b, b < 16 → g_DC_times (nI a) (nI b) = 0 → a = 0 ∨ b = 0 := by decide +kernel
/-- a number of four bits -/
def q4 (x : Int32) : Prop := ∃ i, i < 16 ∧ x = nI i
theorem q4_and (x : Int32) : q4 (x &&& 15) := by
  obtain ⟨i, hi, e⟩ := pk_andE x (m := 15) 4 rfl
  exact ⟨i, hi, e⟩
theorem q4_t {x y : Int32} (hx : q4 x) (hy : q4 y) : q4 (g_DC_times x y) := by
  obtain ⟨a, ha, rfl⟩ := hx
  obtain ⟨b, hb, rfl⟩ := hy
  rw [← gf_cl a ha b hb]
  exact q4_and _
theorem q4_o {x y : Int32} (hx : q4 x) (hy : q4 y) : q4 (g_DC_over x y) := by
  obtain ⟨a, ha, rfl⟩ := hx
  obtain ⟨b, hb, rfl⟩ := hy
  rw [← gf_ocl a ha b hb]
  exact q4_and _
theorem q4_xb : ∀ a, a < 16 → ∀ b, b < 16 → (nI a ^^^ nI b) &&& 15 = nI a ^^^ nI b := by decide +kernel
theorem q4_x {x y : Int32} (hx : q4 x) (hy : q4 y) : q4 (x ^^^ y) := by
  obtain ⟨a, ha, rfl⟩ := hx
  obtain ⟨b, hb, rfl⟩ := hy
  rw [← q4_xb a ha b hb]
  exact q4_and _
theorem t_comm {x y : Int32} (hx : q4 x) (hy : q4 y) : g_DC_times x y = g_DC_times y x := by
  obtain ⟨a, ha, rfl⟩ := hx
  obtain ⟨b, hb, rfl⟩ := hy
  exact gf_comm a ha b hb
theorem t_assoc {x y z : Int32} (hx : q4 x) (hy : q4 y) (hz : q4 z) : g_DC_times (g_DC_times x y) z = g_DC_times x (g_DC_times y z) := by
  obtain ⟨a, ha, rfl⟩ := hx
  obtain ⟨b, hb, rfl⟩ := hy
  obtain ⟨c, hc, rfl⟩ := hz
  exact gf_assoc a ha b hb c hc
theorem t_dist {x y z : Int32} (hx : q4 x) (hy : q4 y) (hz : q4 z) : g_DC_times (x ^^^ y) z = g_DC_times x z ^^^ g_DC_times y z := by
  obtain ⟨a, ha, rfl⟩ := hx
  obtain ⟨b, hb, rfl⟩ := hy
  obtain ⟨c, hc, rfl⟩ := hz
  exact gf_dist a ha b hb c hc
theorem t_over {x y : Int32} (hx : q4 x) (hy : q4 y) (h : y ≠ 0) : g_DC_times (g_DC_over x y) y = x := by
  obtain ⟨a, ha, rfl⟩ := hx
  obtain ⟨b, hb, rfl⟩ := hy
  cases b with
  | zero => exact absurd rfl h
  | succ b => exact gf_over a ha b (by omega)
theorem t_int {x y : Int32} (hx : q4 x) (hy : q4 y) (h : g_DC_times x y = 0) : x = 0 ∨ y = 0 := by
  obtain ⟨a, ha, rfl⟩ := hx
  obtain ⟨b, hb, rfl⟩ := hy
  rcases gf_int a ha b hb h with h | h
  · exact Or.inl (by rw [h]; rfl)
  · exact Or.inr (by rw [h]; rfl)
