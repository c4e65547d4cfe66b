/-! small facts of numbers, and what the calls answer on a new object -/
theorem i_neg1 {x : Int32} (h : ¬ x < 0) : (-1 : Int32) < x := by
  have h1 : (0 : Int) ≤ x.toInt := by simpa using Int32.le_iff_toInt_le.mp (Int32.not_lt.mp h)
  refine Int32.lt_iff_toInt_lt.mpr ?_
  show (-1 : Int) < x.toInt
  omega
def inV (v a b : Int32) : Int32 := if a ≤ v ∧ v ≤ b then 1 else 0
theorem inV_1 {v a b : Int32} (h1 : ¬ v < a) (h2 : ¬ b < v) : (1 : Int32) = inV v a b := (if_pos ⟨Int32.not_lt.mp h1, Int32.not_lt.mp h2⟩).symm
theorem inV_0a {v a b : Int32} (h : v < a) : (0 : Int32) = inV v a b := (if_neg (fun q => absurd h (Int32.not_lt.mpr q.1))).symm
theorem inV_0b {v a b : Int32} (h : b < v) : (0 : Int32) = inV v a b := (if_neg (fun q => absurd h (Int32.not_lt.mpr q.2))).symm
theorem inV_z {v a b : Int32} (h : inV v a b = 0) : ¬ (a ≤ v ∧ v ≤ b) := fun q => by rw [inV, if_pos q] at h; exact absurd h (by decide)
theorem inV_nz {v a b : Int32} (h : ¬ inV v a b = 0) : a ≤ v ∧ v ≤ b := Decidable.byContradiction fun q => h (by rw [inV, if_neg q])
def richesV (h : Int32) : Int32 := if h = -1 then -2 else -1
def backV (n : Int32) : Int32 := if n = 0 then 0 else -1
theorem backV_p {n : Int32} (h1 : ¬ n < 0) (h2 : n ≤ 0) : (0 : Int32) - n = backV n := by
  have e : n = 0 := Int32.le_antisymm h2 (Int32.not_lt.mp h1)
  subst e; rfl
theorem backV_a {n : Int32} (h : n < 0) : (-1 : Int32) = backV n := (if_neg (fun e => by subst e; exact absurd h (by decide))).symm
theorem backV_b {n : Int32} (h : ¬ n ≤ 0) : (-1 : Int32) = backV n := (if_neg (fun e => by subst e; exact absurd (by decide) h)).symm
theorem backV_c {n : Int32} (h : 0 < n) : (-1 : Int32) = backV n := (if_neg (fun e => by subst e; exact absurd h (by decide))).symm
