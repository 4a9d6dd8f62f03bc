/-! every pattern of two errors, over Nat -/
def ms (j p v : Nat) : Nat := mt v (mp ((j * p) % 15))
def mtwo (p v q w : Nat) : Bool :=
  (fun s1 s2 s3 s4 => (fun d => !(Nat.beq d 0) && decide (mL s1 s2 15 0 (mo (mt s1 s4 ^^^ mt s2 s3) d) (mo (mt s2 s4 ^^^ mt s3 s3) d) = some (mp p, v, mp q, w))) (mt s1 s3 ^^^ mt s2 s2)) (ms 1 p v ^^^ ms 1 q w) (ms 2 p v ^^^ ms 2 q w) (ms 3 p v ^^^ ms 3 q w) (ms 4 p v ^^^ ms 4 q w)
theorem mtwo_0 : ∀ q, q < 14 → ∀ v, v < 15 → ∀ w, w < 15 → mtwo 0 (v + 1) (0 + 1 + q) (w + 1) = true := by decide +kernel
theorem mtwo_1 : ∀ q, q < 13 → ∀ v, v < 15 → ∀ w, w < 15 → mtwo 1 (v + 1) (1 + 1 + q) (w + 1) = true := by decide +kernel
theorem mtwo_2 : ∀ q, q < 12 → ∀ v, v < 15 → ∀ w, w < 15 → mtwo 2 (v + 1) (2 + 1 + q) (w + 1) = true := by decide +kernel
theorem mtwo_3 : ∀ q, q < 11 → ∀ v, v < 15 → ∀ w, w < 15 → mtwo 3 (v + 1) (3 + 1 + q) (w + 1) = true := by decide +kernel
theorem mtwo_4 : ∀ q, q < 10 → ∀ v, v < 15 → ∀ w, w < 15 → mtwo 4 (v + 1) (4 + 1 + q) (w + 1) = true := by decide +kernel
theorem mtwo_5 : ∀ q, q < 9 → ∀ v, v < 15 → ∀ w, w < 15 → mtwo 5 (v + 1) (5 + 1 + q) (w + 1) = true := by decide +kernel
theorem mtwo_6 : ∀ q, q < 8 → ∀ v, v < 15 → ∀ w, w < 15 → mtwo 6 (v + 1) (6 + 1 + q) (w + 1) = true := by decide +kernel
theorem mtwo_7 : ∀ q, q < 7 → ∀ v, v < 15 → ∀ w, w < 15 → mtwo 7 (v + 1) (7 + 1 + q) (w + 1) = true := by decide +kernel
theorem mtwo_8 : ∀ q, q < 6 → ∀ v, v < 15 → ∀ w, w < 15 → mtwo 8 (v + 1) (8 + 1 + q) (w + 1) = true := by decide +kernel
theorem mtwo_9 : ∀ q, q < 5 → ∀ v, v < 15 → ∀ w, w < 15 → mtwo 9 (v + 1) (9 + 1 + q) (w + 1) = true := by decide +kernel
theorem mtwo_10 : ∀ q, q < 4 → ∀ v, v < 15 → ∀ w, w < 15 → mtwo 10 (v + 1) (10 + 1 + q) (w + 1) = true := by decide +kernel
theorem mtwo_11 : ∀ q, q < 3 → ∀ v, v < 15 → ∀ w, w < 15 → mtwo 11 (v + 1) (11 + 1 + q) (w + 1) = true := by decide +kernel
theorem mtwo_12 : ∀ q, q < 2 → ∀ v, v < 15 → ∀ w, w < 15 → mtwo 12 (v + 1) (12 + 1 + q) (w + 1) = true := by decide +kernel
theorem mtwo_13 : ∀ q, q < 1 → ∀ v, v < 15 → ∀ w, w < 15 → mtwo 13 (v + 1) (13 + 1 + q) (w + 1) = true := by decide +kernel
theorem mtwo_all : ∀ p, p < 15 → ∀ q, p < q → q < 15 → ∀ v, v < 15 → ∀ w, w < 15 → mtwo p (v + 1) q (w + 1) = true := by
  intro p hp q hq hq' v hv w hw
  obtain ⟨d, rfl⟩ : ∃ d, q = p + 1 + d := ⟨q - (p + 1), by omega⟩
  match p, hp, hq' with
  | 0, _, hq' => exact mtwo_0 d (by omega) v hv w hw
  | 1, _, hq' => exact mtwo_1 d (by omega) v hv w hw
  | 2, _, hq' => exact mtwo_2 d (by omega) v hv w hw
  | 3, _, hq' => exact mtwo_3 d (by omega) v hv w hw
  | 4, _, hq' => exact mtwo_4 d (by omega) v hv w hw
  | 5, _, hq' => exact mtwo_5 d (by omega) v hv w hw
  | 6, _, hq' => exact mtwo_6 d (by omega) v hv w hw
  | 7, _, hq' => exact mtwo_7 d (by omega) v hv w hw
  | 8, _, hq' => exact mtwo_8 d (by omega) v hv w hw
  | 9, _, hq' => exact mtwo_9 d (by omega) v hv w hw
  | 10, _, hq' => exact mtwo_10 d (by omega) v hv w hw
  | 11, _, hq' => exact mtwo_11 d (by omega) v hv w hw
  | 12, _, hq' => exact mtwo_12 d (by omega) v hv w hw
  | 13, _, hq' => exact mtwo_13 d (by omega) v hv w hw
  | p + 14, _, hq' => exact absurd hq' (by omega)
