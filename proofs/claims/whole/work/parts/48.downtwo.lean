/-! what the class finds: every pattern of two errors -/
def cE4 (s1 s2 s3 s4 : Int32) : Int64 := if (g_DC_times s1 s3 ^^^ g_DC_times s2 s2) = 0 then g_DC_oneError s1 s2 s4 else g_DC_twoErrors s1 s2 s3 s4 (g_DC_times s1 s3 ^^^ g_DC_times s2 s2)
def sg (j p v : Nat) : Int32 := tb1 (((tb2 v).toNatClampNeg + j * p) % 15)
def pat (p v : Nat) : Int64 := j_lshl (nI v).toInt64 (4 * nI p)
def two (p v q w : Nat) : Bool := decide (cE4 (sg 1 p v ^^^ sg 1 q w) (sg 2 p v ^^^ sg 2 q w) (sg 3 p v ^^^ sg 3 q w) (sg 4 p v ^^^ sg 4 q w) = pat p v ^^^ pat q w)
theorem one_all : ∀ p, p < 15 → ∀ v, v < 15 → cE4 (sg 1 p (v + 1)) (sg 2 p (v + 1)) (sg 3 p (v + 1)) (sg 4 p (v + 1)) = pat p (v + 1) := by decide +kernel
theorem two_0_1 : ∀ v, v < 15 → ∀ w, w < 15 → two 0 (v + 1) 1 (w + 1) = true := by decide +kernel
