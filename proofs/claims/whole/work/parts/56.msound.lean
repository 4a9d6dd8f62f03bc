/-! what the class takes for an error is one: every syndrome over Nat -/
def mC (s1 s2 s3 s4 : Nat) : Option (Nat × Nat × Nat × Nat) :=
  (fun d => bif Nat.beq d 0 then (fun r => bif Nat.beq r 0 || !(Nat.beq (mt (mt s2 r) r) s4) then none else some (r, mo s1 r, 0, 0)) (mo s2 s1) else mL s1 s2 15 0 (mo (mt s1 s4 ^^^ mt s2 s3) d) (mo (mt s2 s4 ^^^ mt s3 s3) d)) (mt s1 s3 ^^^ mt s2 s2)
def mR (x y z w s1 s2 s3 s4 : Nat) : Bool := Nat.blt x 16 && Nat.blt y 16 && Nat.blt z 16 && Nat.blt w 16 && !(Nat.beq x 0) && !(Nat.beq y 0) && Nat.beq (mt y x ^^^ mt w z) s1 && Nat.beq (mt (mt y x) x ^^^ mt (mt w z) z) s2 && Nat.beq (mt (mt (mt y x) x) x ^^^ mt (mt (mt w z) z) z) s3 && Nat.beq (mt (mt (mt (mt y x) x) x) x ^^^ mt (mt (mt (mt w z) z) z) z) s4 && (bif Nat.beq w 0 then Nat.beq z 0 else !(Nat.beq z 0) && !(Nat.beq z x))
def mK (s1 s2 s3 s4 : Nat) : Bool := match mC s1 s2 s3 s4 with
  | none => true
  | some (x, y, z, w) => mR x y z w s1 s2 s3 s4
theorem mK_0 : ∀ b, b < 16 → ∀ c, c < 16 → ∀ d, d < 16 → mK 0 b c d = true := by decide +kernel
theorem mK_1 : ∀ b, b < 16 → ∀ c, c < 16 → ∀ d, d < 16 → mK 1 b c d = true := by decide +kernel
theorem mK_2 : ∀ b, b < 16 → ∀ c, c < 16 → ∀ d, d < 16 → mK 2 b c d = true := by decide +kernel
theorem mK_3 : ∀ b, b < 16 → ∀ c, c < 16 → ∀ d, d < 16 → mK 3 b c d = true := by decide +kernel
theorem mK_4 : ∀ b, b < 16 → ∀ c, c < 16 → ∀ d, d < 16 → mK 4 b c d = true := by decide +kernel
theorem mK_5 : ∀ b, b < 16 → ∀ c, c < 16 → ∀ d, d < 16 → mK 5 b c d = true := by decide +kernel
theorem mK_6 : ∀ b, b < 16 → ∀ c, c < 16 → ∀ d, d < 16 → mK 6 b c d = true := by decide +kernel
theorem mK_7 : ∀ b, b < 16 → ∀ c, c < 16 → ∀ d, d < 16 → mK 7 b c d = true := by decide +kernel
theorem mK_8 : ∀ b, b < 16 → ∀ c, c < 16 → ∀ d, d < 16 → mK 8 b c d = true := by decide +kernel
theorem mK_9 : ∀ b, b < 16 → ∀ c, c < 16 → ∀ d, d < 16 → mK 9 b c d = true := by decide +kernel
theorem mK_10 : ∀ b, b < 16 → ∀ c, c < 16 → ∀ d, d < 16 → mK 10 b c d = true := by decide +kernel
theorem mK_11 : ∀ b, b < 16 → ∀ c, c < 16 → ∀ d, d < 16 → mK 11 b c d = true := by decide +kernel
theorem mK_12 : ∀ b, b < 16 → ∀ c, c < 16 → ∀ d, d < 16 → mK 12 b c d = true := by decide +kernel
theorem mK_13 : ∀ b, b < 16 → ∀ c, c < 16 → ∀ d, d < 16 → mK 13 b c d = true := by decide +kernel
theorem mK_14 : ∀ b, b < 16 → ∀ c, c < 16 → ∀ d, d < 16 → mK 14 b c d = true := by decide +kernel
theorem mK_15 : ∀ b, b < 16 → ∀ c, c < 16 → ∀ d, d < 16 → mK 15 b c d = true := by decide +kernel
theorem mK_all : ∀ a, a < 16 → ∀ b, b < 16 → ∀ c, c < 16 → ∀ d, d < 16 → mK a b c d = true := by
  intro a ha
  match a, ha with
  | 0, _ => exact mK_0
  | 1, _ => exact mK_1
  | 2, _ => exact mK_2
  | 3, _ => exact mK_3
  | 4, _ => exact mK_4
  | 5, _ => exact mK_5
  | 6, _ => exact mK_6
  | 7, _ => exact mK_7
  | 8, _ => exact mK_8
  | 9, _ => exact mK_9
  | 10, _ => exact mK_10
  | 11, _ => exact mK_11
  | 12, _ => exact mK_12
  | 13, _ => exact mK_13
  | 14, _ => exact mK_14
  | 15, _ => exact mK_15
  | n + 16, h => exact absurd h (by omega)
